def f_L_put (x1 : Int32) (x2 : Int32) (x3 : Int32) (P_side : Int32) (PA_n : Nat) (PA_f : Nat → Int32) (OUT_n : Nat) (OUT_f : Nat → Int64) : Option (Int32 × (Nat → Int32) × (Nat → Int64)) := (f_F_put x1 x2 x3 P_side PA_n PA_f).bind (fun q1114 => Sum.elim (fun kx => if kx = 1 then (some ((1 : Int32), PA_f, OUT_f)) else (if kx = 2 then (some ((2 : Int32), PA_f, OUT_f)) else (none))) (fun r1 => if (0 : Int32) < 0 ∨ OUT_n ≤ (0 : Int32).toNatClampNeg then none else (some ((0 : Int32), r1.2, (vp_updL OUT_f (0 : Int32).toNatClampNeg r1.1.toInt64)))) q1114)
set_option maxHeartbeats 4000000 in
set_option maxRecDepth 100000 in
theorem c_L_put (l : Launch) (hfl : l.flags = pinnedFlags ++ [noTraceFlag]) (dC : Nat → ClassId) (dI : Nat → Nat → Nat) (cI cL : ClassId) {ws0 : va_W} (sz : Nat) {aO aP aN aH aV aS aK aT aC aI aPA aOUT : Nat} {O_side P_mostSide P_side : Int32} {PA_n OUT_n : Nat} {PA_f : Nat → Int32} {OUT_f : Nat → Int64} (x1 : Int32) (x2 : Int32) (x3 : Int32) (hN_O : zA ws0 0 (aO, .inr (0, [.int O_side, .ref aP, .ref aN, .ref aH, .ref aV, .ref aS, .ref aK, .ref aT, .ref aC, .ref aI]))) (hN_P : zA ws0 1 (aP, .inr (1, [.int P_mostSide, .ref aPA, .int P_side]))) (hN_PA : zA ws0 2 (aPA, .inl (cI, PA_n, .inl PA_f))) (hN_OUT : zA ws0 34 (aOUT, .inl (cL, OUT_n, .inr (.inl OUT_f)))) (r : Int32 × (Nat → Int32) × (Nat → Int64)) (hf : f_L_put x1 x2 x3 P_side PA_n PA_f OUT_n OUT_f = some r) : Met l y_L_put w_L_put rm_L_put (va_Pc [.ref aO, .int x1, .int x2, .int x3, .ref aOUT] (zMT dC dI cI cL ws0 sz)) (va_Qi (fun (v : Int32) (ws' : va_W) => v = r.1 ∧ zA ws' 2 (aPA, .inl (cI, PA_n, .inl r.2.1)) ∧ zA ws' 34 (aOUT, .inl (cL, OUT_n, .inr (.inl r.2.2))) ∧ ∀ (j : Nat), j ∉ ([2, 34] : List Nat) → ws'[j]? = ws0[j]?) (zQ dC dI cI cL (va_A ws0 sz)) (va_A ws0 sz)) 1 6 (va_A ws0 sz) := by
  refine va_MetW (cc := b_L_put) (maxL := 6) (ret := some .int) (by decide) rfl ?_
  intro p e s m args below meth c s₁ B hml hv
  obtain ⟨rfl, hsz, hP, hK, hZ, hD0, hX⟩ := hv
  have hx := B.exec
  have hb := B.bytes
  have hr := B.returns
  have hlocks := B.notSynchronized
  have hts : ∀ w ∈ BIG, w.before ([.ref aO, .int x1, .int x2, .int x3, .ref aOUT] : List Value).toArray s = true := fun w h => atoms_spec (ws := w_L_put) B.pre w (List.mem_cons_of_mem _ h)
  have hown : s.vm.findClass "FractalMapsLaw" = some m.cls := findClass_of_methodNamed B.named
  have htab : c.exceptionTable.toList = [⟨0, 12, 15, 13⟩, ⟨0, 12, 19, 15⟩] := z_table B (atoms_spec (ws := w_L_put) B.pre _ List.mem_cons_self)
  subst hsz
  have hD := hD0.self (sz := s.heap.size)
  generalize hAe : va_A ws0 s.heap.size = A at hD ⊢
  have hA : ∀ q : Nat, s.heap.size ≤ q → A q := fun q h => by rw [← hAe]; exact Or.inr h
  have hS : va_S A s.heap s.heap [] := va_S.rf
  have hw : ∀ (j : Nat), j ∉ ([2, 34] : List Nat) → ws0[j]? = ws0[j]? := fun _ _ => rfl
  have hl := lv_entry ([.ref aO, .int x1, .int x2, .int x3, .ref aOUT]) (n := 6) (Nat.le_of_ble_eq_true rfl)
  rw [lg_entry_eq]
  generalize (lg_sl ([.ref aO, .int x1, .int x2, .int x3, .ref aOUT]) ++ List.replicate (6 - (lg_sl ([.ref aO, .int x1, .int x2, .int x3, .ref aOUT])).length) Slot.unset).toArray = ls at hl ⊢
  have hl : lv_has ls 6 [(0, .ref aO), (1, .int x1), (2, .int x2), (3, .int x3), (4, .ref aOUT)] := hl
  unfold f_L_put at hf
  refine lv_aload hx hb d_L_put_0 (lv_at hl 4 rfl) ?_
  refine lv_iconst (v := 0) hx hb d_L_put_2 (by decide) ?_
  refine lv_aload_n hx hb d_L_put_3 rfl (lv_at hl 0 rfl) ?_
  refine lv_iload_n hx hb d_L_put_4 rfl (lv_at hl 1 rfl) ?_
  refine lv_iload_n hx hb d_L_put_5 rfl (lv_at hl 2 rfl) ?_
  refine lv_iload_n hx hb d_L_put_6 rfl (lv_at hl 3 rfl) ?_
  obtain ⟨q1114, hc, hf⟩ := z_b hf
  have hFc := z_free hD hS hA
  rcases q1114 with kx | r1
  · have hf := z_sl hf
    by_cases ck1 : kx = 1
    · have hf := z_t ck1 hf
      subst ck1
      refine z_callThr (As := [.int x1, .int x2, .int x3]) (rest := [.int (0 : Int32), .ref aOUT]) (b := aO) (k := 1) (hpc := 15) ⟨hx, hb, hml, hown, hts⟩ (c_F_put l hfl dC dI cI cL _ x1 x2 x3 hN_O hN_P hN_PA (.inl 1) hc) (cw_L_7 hts ⟨Nat.le_of_ble_eq_true rfl, Nat.le_of_ble_eq_true rfl⟩) ⟨zbT, va_recv hK hP (ci := 0) rfl hN_O, zpT hP hK hZ hD hX (fun _ _ h _ => h)⟩ rfl hl.1 (Nat.le_of_ble_eq_true rfl) d_L_put_7 ⟨Nat.le_of_ble_eq_true rfl, Nat.le_of_ble_eq_true rfl⟩ (fun v u h => by obtain ⟨r1, h1, -⟩ := h; cases h1) (fun j h => (Sum.inl.inj h).symm) ⟨(xW_any (List.mem_of_getElem? (i := 3) rfl) (hX.2.2.2.1 _ (List.mem_of_getElem? (i := 3) rfl))), Or.inl ⟨⟨0, 12, 15, 13⟩, _, htab, by decide, by decide, by decide, rfl, (hts _ k_400)⟩⟩ hS (fun q _ h => hFc q h) hFc (fun ax t H locs ht hvm hB hS => ?_)
      obtain ⟨hP, -, hD1⟩ := hB
      rw [ht] at hP
      have hD := hD1.weaken (fun _ _ _ h => hFc _ h)
      refine lv_astore (lv' := [(5, .ref ax), (0, .ref aO), (1, .int x1), (2, .int x2), (3, .int x3), (4, .ref aOUT)]) hx hb d_L_put_15 hl (by decide) rfl (fun ls hl => ?_)
      refine lv_iconst (v := 1) hx hb d_L_put_17 (by decide) ?_
      obtain rfl := Option.some.inj hf
      exact W.iret hx hb hr (fun t ht hW => ⟨⟨_, ws0, rfl, ⟨rfl, hN_PA, hN_OUT, hw⟩, by rw [ht]; exact hP, va_K.moved hW.alike hK, hD⟩, hS.F ht⟩) hS.2.2 d_L_put_18
    have hf := z_f ck1 hf
    by_cases ck2 : kx = 2
    · have hf := z_t ck2 hf
      subst ck2
      refine z_callThr (As := [.int x1, .int x2, .int x3]) (rest := [.int (0 : Int32), .ref aOUT]) (b := aO) (k := 2) (hpc := 19) ⟨hx, hb, hml, hown, hts⟩ (c_F_put l hfl dC dI cI cL _ x1 x2 x3 hN_O hN_P hN_PA (.inl 2) hc) (cw_L_7 hts ⟨Nat.le_of_ble_eq_true rfl, Nat.le_of_ble_eq_true rfl⟩) ⟨zbT, va_recv hK hP (ci := 0) rfl hN_O, zpT hP hK hZ hD hX (fun _ _ h _ => h)⟩ rfl hl.1 (Nat.le_of_ble_eq_true rfl) d_L_put_7 ⟨Nat.le_of_ble_eq_true rfl, Nat.le_of_ble_eq_true rfl⟩ (fun v u h => by obtain ⟨r1, h1, -⟩ := h; cases h1) (fun j h => (Sum.inl.inj h).symm) ⟨(xW_any (List.mem_of_getElem? (i := 4) rfl) (hX.2.2.2.1 _ (List.mem_of_getElem? (i := 4) rfl))), Or.inr ⟨⟨0, 12, 15, 13⟩, ⟨0, 12, 19, 15⟩, _, "java/lang/IndexOutOfBoundsException", htab, by decide, by decide, by decide, by decide, by decide, by decide, rfl, (hts _ k_400), (hts _ k_401), hX.2.2.2.2 _ (List.mem_of_getElem? (i := 0) rfl)⟩⟩ hS (fun q _ h => hFc q h) hFc (fun ax t H locs ht hvm hB hS => ?_)
      obtain ⟨hP, -, hD1⟩ := hB
      rw [ht] at hP
      have hD := hD1.weaken (fun _ _ _ h => hFc _ h)
      refine lv_astore (lv' := [(5, .ref ax), (0, .ref aO), (1, .int x1), (2, .int x2), (3, .int x3), (4, .ref aOUT)]) hx hb d_L_put_19 hl (by decide) rfl (fun ls hl => ?_)
      refine lv_iconst (v := 2) hx hb d_L_put_21 (by decide) ?_
      obtain rfl := Option.some.inj hf
      exact W.iret hx hb hr (fun t ht hW => ⟨⟨_, ws0, rfl, ⟨rfl, hN_PA, hN_OUT, hw⟩, by rw [ht]; exact hP, va_K.moved hW.alike hK, hD⟩, hS.F ht⟩) hS.2.2 d_L_put_22
    have hf := z_f ck2 hf
    cases hf
  · have hf := z_sr hf
    refine z_callRet (As := [.int x1, .int x2, .int x3]) (rest := [.int (0 : Int32), .ref aOUT]) (b := aO) ⟨hx, hb, hml, hown, hts⟩ (c_F_put l hfl dC dI cI cL _ x1 x2 x3 hN_O hN_P hN_PA (.inr r1) hc) (cw_L_7 hts ⟨Nat.le_of_ble_eq_true rfl, Nat.le_of_ble_eq_true rfl⟩) ⟨zbT, va_recv hK hP (ci := 0) rfl hN_O, zpT hP hK hZ hD hX (fun _ _ h _ => h)⟩ rfl hl.1 (Nat.le_of_ble_eq_true rfl) d_L_put_7 ⟨Nat.le_of_ble_eq_true rfl, Nat.le_of_ble_eq_true rfl⟩ (fun k h => by cases h) hS (fun q _ h => hFc q h) hFc (fun rv ws t H locs ht hvm hu hB hS => ?_)
    obtain ⟨r2, hq2, hv, hN_PA, hfr⟩ := hu
    obtain rfl := Sum.inr.inj hq2
    have hv := hv.symm
    subst hv
    obtain ⟨hP, -, hD1⟩ := hB
    rw [ht] at hP
    have hD := hD1.weaken (fun _ _ _ h => hFc _ h)
    have hN_PA : zA ws 2 (aPA, .inl (cI, PA_n, .inl r1.2)) := hN_PA
    have hN_O := (hfr _ (by decide)).trans hN_O
    have hN_P := (hfr _ (by decide)).trans hN_P
    have hN_OUT := (hfr _ (by decide)).trans hN_OUT
    have hw := z_frC (by decide) hw hfr
    refine lv_i2l hx hb d_L_put_10 rfl ?_
    obtain ⟨hin, hf⟩ := z_no hf
    refine z_last hx hb hK hP hD hS hN_OUT rfl hin d_L_put_11 (fun ws H locs hP hD hS hN_OUT hfr => ?_)
    have hN_OUT : zA ws 34 (aOUT, .inl (cL, OUT_n, .inr (.inl (vp_updL OUT_f (0 : Int32).toNatClampNeg r1.1.toInt64)))) := hN_OUT
    have hN_O := (hfr _ (by decide)).trans hN_O
    have hN_P := (hfr _ (by decide)).trans hN_P
    have hN_PA := (hfr _ (by decide)).trans hN_PA
    have hw := z_fr (by decide) hw hfr
    refine lv_goto (tgt := 23) hx hb d_L_put_12 (by decide) ?_
    refine lv_iconst (v := 0) hx hb d_L_put_23 (by decide) ?_
    obtain rfl := Option.some.inj hf
    exact W.iret hx hb hr (fun t ht hW => ⟨⟨_, ws, rfl, ⟨rfl, hN_PA, hN_OUT, hw⟩, by rw [ht]; exact hP, va_K.moved hW.alike hK, hD⟩, hS.F ht⟩) hS.2.2 d_L_put_24
def f_L_encode (x1 : Int32) (x2 : Int32) (O_side : Int32) (P_side : Int32) (PA_n : Nat) (PA_f : Nat → Int32) (H_mostSide : Int32) (H_side : Int32) (HA_n : Nat) (HA_f : Nat → Int32) (V_left : Int32) (V_top : Int32) (V_start : Int32) (V_stepAcross : Int32) (V_stepDown : Int32) (S_tried : Int32) (S_size : Int32) (S_count : Int32) (S_wantedSum : Int32) (S_foundSum : Int32) (S_foundSquares : Int32) (W_n : Nat) (W_f : Nat → Int32) (D_n : Nat) (D_f : Nat → Int32) (Q_n : Nat) (Q_f : Nat → Int32) (R_n : Nat) (R_f : Nat → Int32) (E_domain : Int32) (E_turn : Int32) (E_contrast : Int32) (E_offset : Int32) (E_error : Int32) (K_count : Int32) (KA_n : Nat) (KA_f : Nat → Int32) (C_filled : Int32) (C_taken : Int32) (CA_n : Nat) (CA_f : Nat → Int32) (OUT_n : Nat) (OUT_f : Nat → Int64) : Option (Int32 × Int32 × (Nat → Int32) × Int32 × Int32 × Int32 × Int32 × Int32 × Int32 × Int32 × Int32 × Int32 × Int32 × Int32 × (Nat → Int32) × (Nat → Int32) × (Nat → Int32) × (Nat → Int32) × Int32 × Int32 × Int32 × Int32 × Int32 × Int32 × (Nat → Int32) × Int32 × Int32 × (Nat → Int32) × (Nat → Int64)) := (f_F_encode x1 x2 O_side P_side PA_n PA_f H_mostSide H_side HA_n HA_f V_left V_top V_start V_stepAcross V_stepDown S_tried S_size S_count S_wantedSum S_foundSum S_foundSquares W_n W_f D_n D_f Q_n Q_f R_n R_f E_domain E_turn E_contrast E_offset E_error K_count KA_n KA_f C_filled CA_n CA_f).bind (fun q1115 => Sum.elim (fun kx => if kx = 2 then (some ((1 : Int32), H_side, HA_f, V_left, V_top, V_start, V_stepAcross, V_stepDown, S_tried, S_size, S_count, S_wantedSum, S_foundSum, S_foundSquares, W_f, D_f, Q_f, R_f, E_domain, E_turn, E_contrast, E_offset, E_error, K_count, KA_f, C_filled, C_taken, CA_f, OUT_f)) else (none)) (fun r1 => if (0 : Int32) < 0 ∨ OUT_n ≤ (0 : Int32).toNatClampNeg then none else (some ((0 : Int32), r1.2.1, r1.2.2.1, r1.2.2.2.1, r1.2.2.2.2.1, r1.2.2.2.2.2.1, r1.2.2.2.2.2.2.1, r1.2.2.2.2.2.2.2.1, r1.2.2.2.2.2.2.2.2.1, r1.2.2.2.2.2.2.2.2.2.1, r1.2.2.2.2.2.2.2.2.2.2.1, r1.2.2.2.2.2.2.2.2.2.2.2.1, r1.2.2.2.2.2.2.2.2.2.2.2.2.1, r1.2.2.2.2.2.2.2.2.2.2.2.2.2.1, r1.2.2.2.2.2.2.2.2.2.2.2.2.2.2.1, r1.2.2.2.2.2.2.2.2.2.2.2.2.2.2.2.1, r1.2.2.2.2.2.2.2.2.2.2.2.2.2.2.2.2.1, r1.2.2.2.2.2.2.2.2.2.2.2.2.2.2.2.2.2.1, r1.2.2.2.2.2.2.2.2.2.2.2.2.2.2.2.2.2.2.1, r1.2.2.2.2.2.2.2.2.2.2.2.2.2.2.2.2.2.2.2.1, r1.2.2.2.2.2.2.2.2.2.2.2.2.2.2.2.2.2.2.2.2.1, r1.2.2.2.2.2.2.2.2.2.2.2.2.2.2.2.2.2.2.2.2.2.1, r1.2.2.2.2.2.2.2.2.2.2.2.2.2.2.2.2.2.2.2.2.2.2.1, r1.2.2.2.2.2.2.2.2.2.2.2.2.2.2.2.2.2.2.2.2.2.2.2.1, r1.2.2.2.2.2.2.2.2.2.2.2.2.2.2.2.2.2.2.2.2.2.2.2.2.1, r1.2.2.2.2.2.2.2.2.2.2.2.2.2.2.2.2.2.2.2.2.2.2.2.2.2.1, r1.2.2.2.2.2.2.2.2.2.2.2.2.2.2.2.2.2.2.2.2.2.2.2.2.2.2.1, r1.2.2.2.2.2.2.2.2.2.2.2.2.2.2.2.2.2.2.2.2.2.2.2.2.2.2.2, (vp_updL OUT_f (0 : Int32).toNatClampNeg r1.1.toInt64)))) q1115)
set_option maxHeartbeats 4000000 in
set_option maxRecDepth 100000 in
theorem c_L_encode (l : Launch) (hfl : l.flags = pinnedFlags ++ [noTraceFlag]) (dC : Nat → ClassId) (dI : Nat → Nat → Nat) (cI cL : ClassId) {ws0 : va_W} (sz : Nat) {aO aP aN aH aV aS aK aT aC aI aPA aHA aW aD aQ aR aE aKA aCA aOUT : Nat} {O_side P_mostSide P_side H_mostSide H_side V_left V_top V_start V_stepAcross V_stepDown S_tried S_size S_count S_wantedSum S_foundSum S_foundSquares E_domain E_turn E_contrast E_offset E_error K_count C_filled C_taken : Int32} {PA_n HA_n W_n D_n Q_n R_n KA_n CA_n OUT_n : Nat} {PA_f HA_f W_f D_f Q_f R_f KA_f CA_f : Nat → Int32} {OUT_f : Nat → Int64} (x1 : Int32) (x2 : Int32) (hN_O : zA ws0 0 (aO, .inr (0, [.int O_side, .ref aP, .ref aN, .ref aH, .ref aV, .ref aS, .ref aK, .ref aT, .ref aC, .ref aI]))) (hN_P : zA ws0 1 (aP, .inr (1, [.int P_mostSide, .ref aPA, .int P_side]))) (hN_PA : zA ws0 2 (aPA, .inl (cI, PA_n, .inl PA_f))) (hN_H : zA ws0 5 (aH, .inr (1, [.int H_mostSide, .ref aHA, .int H_side]))) (hN_HA : zA ws0 6 (aHA, .inl (cI, HA_n, .inl HA_f))) (hN_V : zA ws0 7 (aV, .inr (2, [.ref aH, .int V_left, .int V_top, .int V_start, .int V_stepAcross, .int V_stepDown]))) (hN_S : zA ws0 8 (aS, .inr (3, [.ref aP, .ref aH, .ref aV, .ref aW, .ref aD, .ref aQ, .ref aR, .ref aE, .int S_tried, .int S_size, .int S_count, .int S_wantedSum, .int S_foundSum, .int S_foundSquares]))) (hN_W : zA ws0 9 (aW, .inl (cI, W_n, .inl W_f))) (hN_D : zA ws0 10 (aD, .inl (cI, D_n, .inl D_f))) (hN_Q : zA ws0 11 (aQ, .inl (cI, Q_n, .inl Q_f))) (hN_R : zA ws0 12 (aR, .inl (cI, R_n, .inl R_f))) (hN_E : zA ws0 13 (aE, .inr (4, [.int E_domain, .int E_turn, .int E_contrast, .int E_offset, .int E_error]))) (hN_K : zA ws0 14 (aK, .inr (5, [.ref aKA, .int K_count]))) (hN_KA : zA ws0 15 (aKA, .inl (cI, KA_n, .inl KA_f))) (hN_C : zA ws0 17 (aC, .inr (6, [.ref aCA, .int C_filled, .int C_taken]))) (hN_CA : zA ws0 18 (aCA, .inl (cI, CA_n, .inl CA_f))) (hN_OUT : zA ws0 34 (aOUT, .inl (cL, OUT_n, .inr (.inl OUT_f)))) (r : Int32 × Int32 × (Nat → Int32) × Int32 × Int32 × Int32 × Int32 × Int32 × Int32 × Int32 × Int32 × Int32 × Int32 × Int32 × (Nat → Int32) × (Nat → Int32) × (Nat → Int32) × (Nat → Int32) × Int32 × Int32 × Int32 × Int32 × Int32 × Int32 × (Nat → Int32) × Int32 × Int32 × (Nat → Int32) × (Nat → Int64)) (hf : f_L_encode x1 x2 O_side P_side PA_n PA_f H_mostSide H_side HA_n HA_f V_left V_top V_start V_stepAcross V_stepDown S_tried S_size S_count S_wantedSum S_foundSum S_foundSquares W_n W_f D_n D_f Q_n Q_f R_n R_f E_domain E_turn E_contrast E_offset E_error K_count KA_n KA_f C_filled C_taken CA_n CA_f OUT_n OUT_f = some r) : Met l y_L_encode w_L_encode rm_L_encode (va_Pc [.ref aO, .int x1, .int x2, .ref aOUT] (zMT dC dI cI cL ws0 sz)) (va_Qi (fun (v : Int32) (ws' : va_W) => v = r.1 ∧ zA ws' 5 (aH, .inr (1, [.int H_mostSide, .ref aHA, .int r.2.1])) ∧ zA ws' 6 (aHA, .inl (cI, HA_n, .inl r.2.2.1)) ∧ zA ws' 7 (aV, .inr (2, [.ref aH, .int r.2.2.2.1, .int r.2.2.2.2.1, .int r.2.2.2.2.2.1, .int r.2.2.2.2.2.2.1, .int r.2.2.2.2.2.2.2.1])) ∧ zA ws' 8 (aS, .inr (3, [.ref aP, .ref aH, .ref aV, .ref aW, .ref aD, .ref aQ, .ref aR, .ref aE, .int r.2.2.2.2.2.2.2.2.1, .int r.2.2.2.2.2.2.2.2.2.1, .int r.2.2.2.2.2.2.2.2.2.2.1, .int r.2.2.2.2.2.2.2.2.2.2.2.1, .int r.2.2.2.2.2.2.2.2.2.2.2.2.1, .int r.2.2.2.2.2.2.2.2.2.2.2.2.2.1])) ∧ zA ws' 9 (aW, .inl (cI, W_n, .inl r.2.2.2.2.2.2.2.2.2.2.2.2.2.2.1)) ∧ zA ws' 10 (aD, .inl (cI, D_n, .inl r.2.2.2.2.2.2.2.2.2.2.2.2.2.2.2.1)) ∧ zA ws' 11 (aQ, .inl (cI, Q_n, .inl r.2.2.2.2.2.2.2.2.2.2.2.2.2.2.2.2.1)) ∧ zA ws' 12 (aR, .inl (cI, R_n, .inl r.2.2.2.2.2.2.2.2.2.2.2.2.2.2.2.2.2.1)) ∧ zA ws' 13 (aE, .inr (4, [.int r.2.2.2.2.2.2.2.2.2.2.2.2.2.2.2.2.2.2.1, .int r.2.2.2.2.2.2.2.2.2.2.2.2.2.2.2.2.2.2.2.1, .int r.2.2.2.2.2.2.2.2.2.2.2.2.2.2.2.2.2.2.2.2.1, .int r.2.2.2.2.2.2.2.2.2.2.2.2.2.2.2.2.2.2.2.2.2.1, .int r.2.2.2.2.2.2.2.2.2.2.2.2.2.2.2.2.2.2.2.2.2.2.1])) ∧ zA ws' 14 (aK, .inr (5, [.ref aKA, .int r.2.2.2.2.2.2.2.2.2.2.2.2.2.2.2.2.2.2.2.2.2.2.2.1])) ∧ zA ws' 15 (aKA, .inl (cI, KA_n, .inl r.2.2.2.2.2.2.2.2.2.2.2.2.2.2.2.2.2.2.2.2.2.2.2.2.1)) ∧ zA ws' 17 (aC, .inr (6, [.ref aCA, .int r.2.2.2.2.2.2.2.2.2.2.2.2.2.2.2.2.2.2.2.2.2.2.2.2.2.1, .int r.2.2.2.2.2.2.2.2.2.2.2.2.2.2.2.2.2.2.2.2.2.2.2.2.2.2.1])) ∧ zA ws' 18 (aCA, .inl (cI, CA_n, .inl r.2.2.2.2.2.2.2.2.2.2.2.2.2.2.2.2.2.2.2.2.2.2.2.2.2.2.2.1)) ∧ zA ws' 34 (aOUT, .inl (cL, OUT_n, .inr (.inl r.2.2.2.2.2.2.2.2.2.2.2.2.2.2.2.2.2.2.2.2.2.2.2.2.2.2.2.2))) ∧ ∀ (j : Nat), j ∉ ([5, 6, 7, 8, 9, 10, 11, 12, 13, 14, 15, 17, 18, 34] : List Nat) → ws'[j]? = ws0[j]?) (zQ dC dI cI cL (va_A ws0 sz)) (va_A ws0 sz)) 1 6 (va_A ws0 sz) := by
  refine va_MetW (cc := b_L_encode) (maxL := 5) (ret := some .int) (by decide) rfl ?_
  intro p e s m args below meth c s₁ B hml hv
  obtain ⟨rfl, hsz, hP, hK, hZ, hD0, hX⟩ := hv
  have hx := B.exec
  have hb := B.bytes
  have hr := B.returns
  have hlocks := B.notSynchronized
  have hts : ∀ w ∈ BIG, w.before ([.ref aO, .int x1, .int x2, .ref aOUT] : List Value).toArray s = true := fun w h => atoms_spec (ws := w_L_encode) B.pre w (List.mem_cons_of_mem _ h)
  have hown : s.vm.findClass "FractalMapsLaw" = some m.cls := findClass_of_methodNamed B.named
  have htab : c.exceptionTable.toList = [⟨0, 10, 13, 15⟩] := z_table B (atoms_spec (ws := w_L_encode) B.pre _ List.mem_cons_self)
  subst hsz
  have hD := hD0.self (sz := s.heap.size)
  generalize hAe : va_A ws0 s.heap.size = A at hD ⊢
  have hA : ∀ q : Nat, s.heap.size ≤ q → A q := fun q h => by rw [← hAe]; exact Or.inr h
  have hS : va_S A s.heap s.heap [] := va_S.rf
  have hw : ∀ (j : Nat), j ∉ ([5, 6, 7, 8, 9, 10, 11, 12, 13, 14, 15, 17, 18, 34] : List Nat) → ws0[j]? = ws0[j]? := fun _ _ => rfl
  have hl := lv_entry ([.ref aO, .int x1, .int x2, .ref aOUT]) (n := 5) (Nat.le_of_ble_eq_true rfl)
  rw [lg_entry_eq]
  generalize (lg_sl ([.ref aO, .int x1, .int x2, .ref aOUT]) ++ List.replicate (5 - (lg_sl ([.ref aO, .int x1, .int x2, .ref aOUT])).length) Slot.unset).toArray = ls at hl ⊢
  have hl : lv_has ls 5 [(0, .ref aO), (1, .int x1), (2, .int x2), (3, .ref aOUT)] := hl
  unfold f_L_encode at hf
  refine lv_aload_n hx hb d_L_encode_0 rfl (lv_at hl 3 rfl) ?_
  refine lv_iconst (v := 0) hx hb d_L_encode_1 (by decide) ?_
  refine lv_aload_n hx hb d_L_encode_2 rfl (lv_at hl 0 rfl) ?_
  refine lv_iload_n hx hb d_L_encode_3 rfl (lv_at hl 1 rfl) ?_
  refine lv_iload_n hx hb d_L_encode_4 rfl (lv_at hl 2 rfl) ?_
  obtain ⟨q1115, hc, hf⟩ := z_b hf
  have hFc := z_free hD hS hA
  rcases q1115 with kx | r1
  · have hf := z_sl hf
    by_cases ck2 : kx = 2
    · have hf := z_t ck2 hf
      subst ck2
      refine z_callThr (As := [.int x1, .int x2]) (rest := [.int (0 : Int32), .ref aOUT]) (b := aO) (k := 2) (hpc := 13) ⟨hx, hb, hml, hown, hts⟩ (c_F_encode l hfl dC dI cI cL _ x1 x2 hN_O hN_P hN_PA hN_H hN_HA hN_V hN_S hN_W hN_D hN_Q hN_R hN_E hN_K hN_KA hN_C hN_CA (.inl 2) hc) (cw_L_17 hts ⟨Nat.le_of_ble_eq_true rfl, Nat.le_of_ble_eq_true rfl⟩) ⟨zbT, va_recv hK hP (ci := 0) rfl hN_O, zpT hP hK hZ hD hX (fun _ _ h _ => h)⟩ rfl hl.1 (Nat.le_of_ble_eq_true rfl) d_L_encode_5 ⟨Nat.le_of_ble_eq_true rfl, Nat.le_of_ble_eq_true rfl⟩ (fun v u h => by obtain ⟨r1, h1, -⟩ := h; cases h1) (fun j h => (Sum.inl.inj h).symm) ⟨(xW_any (List.mem_of_getElem? (i := 4) rfl) (hX.2.2.2.1 _ (List.mem_of_getElem? (i := 4) rfl))), Or.inl ⟨⟨0, 10, 13, 15⟩, _, htab, by decide, by decide, by decide, rfl, (hts _ k_401)⟩⟩ hS (fun q _ h => hFc q h) hFc (fun ax t H locs ht hvm hB hS => ?_)
      obtain ⟨hP, -, hD1⟩ := hB
      rw [ht] at hP
      have hD := hD1.weaken (fun _ _ _ h => hFc _ h)
      refine lv_astore (lv' := [(4, .ref ax), (0, .ref aO), (1, .int x1), (2, .int x2), (3, .ref aOUT)]) hx hb d_L_encode_13 hl (by decide) rfl (fun ls hl => ?_)
      refine lv_iconst (v := 1) hx hb d_L_encode_15 (by decide) ?_
      obtain rfl := Option.some.inj hf
      exact W.iret hx hb hr (fun t ht hW => ⟨⟨_, ws0, rfl, (by dsimp only; exact ⟨rfl, hN_H, hN_HA, hN_V, hN_S, hN_W, hN_D, hN_Q, hN_R, hN_E, hN_K, hN_KA, hN_C, hN_CA, hN_OUT, hw⟩), by rw [ht]; exact hP, va_K.moved hW.alike hK, hD⟩, hS.F ht⟩) hS.2.2 d_L_encode_16
    have hf := z_f ck2 hf
    cases hf
  · have hf := z_sr hf
    refine z_callRet (As := [.int x1, .int x2]) (rest := [.int (0 : Int32), .ref aOUT]) (b := aO) ⟨hx, hb, hml, hown, hts⟩ (c_F_encode l hfl dC dI cI cL _ x1 x2 hN_O hN_P hN_PA hN_H hN_HA hN_V hN_S hN_W hN_D hN_Q hN_R hN_E hN_K hN_KA hN_C hN_CA (.inr r1) hc) (cw_L_17 hts ⟨Nat.le_of_ble_eq_true rfl, Nat.le_of_ble_eq_true rfl⟩) ⟨zbT, va_recv hK hP (ci := 0) rfl hN_O, zpT hP hK hZ hD hX (fun _ _ h _ => h)⟩ rfl hl.1 (Nat.le_of_ble_eq_true rfl) d_L_encode_5 ⟨Nat.le_of_ble_eq_true rfl, Nat.le_of_ble_eq_true rfl⟩ (fun k h => by cases h) hS (fun q _ h => hFc q h) hFc (fun rv ws t H locs ht hvm hu hB hS => ?_)
    obtain ⟨r2, hq2, hv, hN_H, hN_HA, hN_V, hN_S, hN_W, hN_D, hN_Q, hN_R, hN_E, hN_K, hN_KA, hN_C, hN_CA, hfr⟩ := hu
    obtain rfl := Sum.inr.inj hq2
    have hv := hv.symm
    subst hv
    obtain ⟨hP, -, hD1⟩ := hB
    rw [ht] at hP
    have hD := hD1.weaken (fun _ _ _ h => hFc _ h)
    have hN_H : zA ws 5 (aH, .inr (1, [.int H_mostSide, .ref aHA, .int r1.2.1])) := hN_H
    have hN_HA : zA ws 6 (aHA, .inl (cI, HA_n, .inl r1.2.2.1)) := hN_HA
    have hN_V : zA ws 7 (aV, .inr (2, [.ref aH, .int r1.2.2.2.1, .int r1.2.2.2.2.1, .int r1.2.2.2.2.2.1, .int r1.2.2.2.2.2.2.1, .int r1.2.2.2.2.2.2.2.1])) := hN_V
    have hN_S : zA ws 8 (aS, .inr (3, [.ref aP, .ref aH, .ref aV, .ref aW, .ref aD, .ref aQ, .ref aR, .ref aE, .int r1.2.2.2.2.2.2.2.2.1, .int r1.2.2.2.2.2.2.2.2.2.1, .int r1.2.2.2.2.2.2.2.2.2.2.1, .int r1.2.2.2.2.2.2.2.2.2.2.2.1, .int r1.2.2.2.2.2.2.2.2.2.2.2.2.1, .int r1.2.2.2.2.2.2.2.2.2.2.2.2.2.1])) := hN_S
    have hN_W : zA ws 9 (aW, .inl (cI, W_n, .inl r1.2.2.2.2.2.2.2.2.2.2.2.2.2.2.1)) := hN_W
    have hN_D : zA ws 10 (aD, .inl (cI, D_n, .inl r1.2.2.2.2.2.2.2.2.2.2.2.2.2.2.2.1)) := hN_D
    have hN_Q : zA ws 11 (aQ, .inl (cI, Q_n, .inl r1.2.2.2.2.2.2.2.2.2.2.2.2.2.2.2.2.1)) := hN_Q
    have hN_R : zA ws 12 (aR, .inl (cI, R_n, .inl r1.2.2.2.2.2.2.2.2.2.2.2.2.2.2.2.2.2.1)) := hN_R
    have hN_E : zA ws 13 (aE, .inr (4, [.int r1.2.2.2.2.2.2.2.2.2.2.2.2.2.2.2.2.2.2.1, .int r1.2.2.2.2.2.2.2.2.2.2.2.2.2.2.2.2.2.2.2.1, .int r1.2.2.2.2.2.2.2.2.2.2.2.2.2.2.2.2.2.2.2.2.1, .int r1.2.2.2.2.2.2.2.2.2.2.2.2.2.2.2.2.2.2.2.2.2.1, .int r1.2.2.2.2.2.2.2.2.2.2.2.2.2.2.2.2.2.2.2.2.2.2.1])) := hN_E
    have hN_K : zA ws 14 (aK, .inr (5, [.ref aKA, .int r1.2.2.2.2.2.2.2.2.2.2.2.2.2.2.2.2.2.2.2.2.2.2.2.1])) := hN_K
    have hN_KA : zA ws 15 (aKA, .inl (cI, KA_n, .inl r1.2.2.2.2.2.2.2.2.2.2.2.2.2.2.2.2.2.2.2.2.2.2.2.2.1)) := hN_KA
    have hN_C : zA ws 17 (aC, .inr (6, [.ref aCA, .int r1.2.2.2.2.2.2.2.2.2.2.2.2.2.2.2.2.2.2.2.2.2.2.2.2.2.1, .int r1.2.2.2.2.2.2.2.2.2.2.2.2.2.2.2.2.2.2.2.2.2.2.2.2.2.2.1])) := hN_C
    have hN_CA : zA ws 18 (aCA, .inl (cI, CA_n, .inl r1.2.2.2.2.2.2.2.2.2.2.2.2.2.2.2.2.2.2.2.2.2.2.2.2.2.2.2)) := hN_CA
    have hN_O := (hfr _ (by decide)).trans hN_O
    have hN_P := (hfr _ (by decide)).trans hN_P
    have hN_PA := (hfr _ (by decide)).trans hN_PA
    have hN_OUT := (hfr _ (by decide)).trans hN_OUT
    have hw := z_frC (by decide) hw hfr
    refine lv_i2l hx hb d_L_encode_8 rfl ?_
    obtain ⟨hin, hf⟩ := z_no hf
    refine z_last hx hb hK hP hD hS hN_OUT rfl hin d_L_encode_9 (fun ws H locs hP hD hS hN_OUT hfr => ?_)
    have hN_OUT : zA ws 34 (aOUT, .inl (cL, OUT_n, .inr (.inl (vp_updL OUT_f (0 : Int32).toNatClampNeg r1.1.toInt64)))) := hN_OUT
    have hN_O := (hfr _ (by decide)).trans hN_O
    have hN_P := (hfr _ (by decide)).trans hN_P
    have hN_PA := (hfr _ (by decide)).trans hN_PA
    have hN_H := (hfr _ (by decide)).trans hN_H
    have hN_HA := (hfr _ (by decide)).trans hN_HA
    have hN_V := (hfr _ (by decide)).trans hN_V
    have hN_S := (hfr _ (by decide)).trans hN_S
    have hN_W := (hfr _ (by decide)).trans hN_W
    have hN_D := (hfr _ (by decide)).trans hN_D
    have hN_Q := (hfr _ (by decide)).trans hN_Q
    have hN_R := (hfr _ (by decide)).trans hN_R
    have hN_E := (hfr _ (by decide)).trans hN_E
    have hN_K := (hfr _ (by decide)).trans hN_K
    have hN_KA := (hfr _ (by decide)).trans hN_KA
    have hN_C := (hfr _ (by decide)).trans hN_C
    have hN_CA := (hfr _ (by decide)).trans hN_CA
    have hw := z_fr (by decide) hw hfr
    refine lv_goto (tgt := 17) hx hb d_L_encode_10 (by decide) ?_
    refine lv_iconst (v := 0) hx hb d_L_encode_17 (by decide) ?_
    obtain rfl := Option.some.inj hf
    exact W.iret hx hb hr (fun t ht hW => ⟨⟨_, ws, rfl, (by dsimp only; exact ⟨rfl, hN_H, hN_HA, hN_V, hN_S, hN_W, hN_D, hN_Q, hN_R, hN_E, hN_K, hN_KA, hN_C, hN_CA, hN_OUT, hw⟩), by rw [ht]; exact hP, va_K.moved hW.alike hK, hD⟩, hS.F ht⟩) hS.2.2 d_L_encode_18
def f_L_block (x1 : Int32) (x2 : Int32) (K_count : Int32) (KA_n : Nat) (KA_f : Nat → Int32) (OUT_n : Nat) (OUT_f : Nat → Int64) : Option (Int32 × (Nat → Int64)) := (f_F_block x1 x2 K_count KA_n KA_f).bind (fun q1116 => Sum.elim (fun kx => if kx = 1 then (some ((1 : Int32), OUT_f)) else (if kx = 2 then (some ((2 : Int32), OUT_f)) else (none))) (fun r1 => if (0 : Int32) < 0 ∨ OUT_n ≤ (0 : Int32).toNatClampNeg then none else (some ((0 : Int32), (vp_updL OUT_f (0 : Int32).toNatClampNeg r1.toInt64)))) q1116)
set_option maxHeartbeats 4000000 in
set_option maxRecDepth 100000 in
theorem c_L_block (l : Launch) (hfl : l.flags = pinnedFlags ++ [noTraceFlag]) (dC : Nat → ClassId) (dI : Nat → Nat → Nat) (cI cL : ClassId) {ws0 : va_W} (sz : Nat) {aO aP aN aH aV aS aK aT aC aI aKA aOUT : Nat} {O_side K_count : Int32} {KA_n OUT_n : Nat} {KA_f : Nat → Int32} {OUT_f : Nat → Int64} (x1 : Int32) (x2 : Int32) (hN_O : zA ws0 0 (aO, .inr (0, [.int O_side, .ref aP, .ref aN, .ref aH, .ref aV, .ref aS, .ref aK, .ref aT, .ref aC, .ref aI]))) (hN_K : zA ws0 14 (aK, .inr (5, [.ref aKA, .int K_count]))) (hN_KA : zA ws0 15 (aKA, .inl (cI, KA_n, .inl KA_f))) (hN_OUT : zA ws0 34 (aOUT, .inl (cL, OUT_n, .inr (.inl OUT_f)))) (r : Int32 × (Nat → Int64)) (hf : f_L_block x1 x2 K_count KA_n KA_f OUT_n OUT_f = some r) : Met l y_L_block w_L_block rm_L_block (va_Pc [.ref aO, .int x1, .int x2, .ref aOUT] (zMT dC dI cI cL ws0 sz)) (va_Qi (fun (v : Int32) (ws' : va_W) => v = r.1 ∧ zA ws' 34 (aOUT, .inl (cL, OUT_n, .inr (.inl r.2))) ∧ ∀ (j : Nat), j ∉ ([34] : List Nat) → ws'[j]? = ws0[j]?) (zQ dC dI cI cL (va_A ws0 sz)) (va_A ws0 sz)) 1 6 (va_A ws0 sz) := by
  refine va_MetW (cc := b_L_block) (maxL := 5) (ret := some .int) (by decide) rfl ?_
  intro p e s m args below meth c s₁ B hml hv
  obtain ⟨rfl, hsz, hP, hK, hZ, hD0, hX⟩ := hv
  have hx := B.exec
  have hb := B.bytes
  have hr := B.returns
  have hlocks := B.notSynchronized
  have hts : ∀ w ∈ BIG, w.before ([.ref aO, .int x1, .int x2, .ref aOUT] : List Value).toArray s = true := fun w h => atoms_spec (ws := w_L_block) B.pre w (List.mem_cons_of_mem _ h)
  have hown : s.vm.findClass "FractalMapsLaw" = some m.cls := findClass_of_methodNamed B.named
  have htab : c.exceptionTable.toList = [⟨0, 10, 13, 13⟩, ⟨0, 10, 17, 15⟩] := z_table B (atoms_spec (ws := w_L_block) B.pre _ List.mem_cons_self)
  subst hsz
  have hD := hD0.self (sz := s.heap.size)
  generalize hAe : va_A ws0 s.heap.size = A at hD ⊢
  have hA : ∀ q : Nat, s.heap.size ≤ q → A q := fun q h => by rw [← hAe]; exact Or.inr h
  have hS : va_S A s.heap s.heap [] := va_S.rf
  have hw : ∀ (j : Nat), j ∉ ([34] : List Nat) → ws0[j]? = ws0[j]? := fun _ _ => rfl
  have hl := lv_entry ([.ref aO, .int x1, .int x2, .ref aOUT]) (n := 5) (Nat.le_of_ble_eq_true rfl)
  rw [lg_entry_eq]
  generalize (lg_sl ([.ref aO, .int x1, .int x2, .ref aOUT]) ++ List.replicate (5 - (lg_sl ([.ref aO, .int x1, .int x2, .ref aOUT])).length) Slot.unset).toArray = ls at hl ⊢
  have hl : lv_has ls 5 [(0, .ref aO), (1, .int x1), (2, .int x2), (3, .ref aOUT)] := hl
  unfold f_L_block at hf
  refine lv_aload_n hx hb d_L_block_0 rfl (lv_at hl 3 rfl) ?_
  refine lv_iconst (v := 0) hx hb d_L_block_1 (by decide) ?_
  refine lv_aload_n hx hb d_L_block_2 rfl (lv_at hl 0 rfl) ?_
  refine lv_iload_n hx hb d_L_block_3 rfl (lv_at hl 1 rfl) ?_
  refine lv_iload_n hx hb d_L_block_4 rfl (lv_at hl 2 rfl) ?_
  obtain ⟨q1116, hc, hf⟩ := z_b hf
  have hFc := z_free hD hS hA
  rcases q1116 with kx | r1
  · have hf := z_sl hf
    by_cases ck1 : kx = 1
    · have hf := z_t ck1 hf
      subst ck1
      refine z_callThr (As := [.int x1, .int x2]) (rest := [.int (0 : Int32), .ref aOUT]) (b := aO) (k := 1) (hpc := 13) ⟨hx, hb, hml, hown, hts⟩ (c_F_block l hfl dC dI cI cL _ x1 x2 hN_O hN_K hN_KA (.inl 1) hc) (cw_L_21 hts ⟨Nat.le_of_ble_eq_true rfl, Nat.le_of_ble_eq_true rfl⟩) ⟨zbT, va_recv hK hP (ci := 0) rfl hN_O, zpT hP hK hZ hD hX (fun _ _ h _ => h)⟩ rfl hl.1 (Nat.le_of_ble_eq_true rfl) d_L_block_5 ⟨Nat.le_of_ble_eq_true rfl, Nat.le_of_ble_eq_true rfl⟩ (fun v u h => by obtain ⟨r1, h1, -⟩ := h; cases h1) (fun j h => (Sum.inl.inj h).symm) ⟨(xW_any (List.mem_of_getElem? (i := 3) rfl) (hX.2.2.2.1 _ (List.mem_of_getElem? (i := 3) rfl))), Or.inl ⟨⟨0, 10, 13, 13⟩, _, htab, by decide, by decide, by decide, rfl, (hts _ k_400)⟩⟩ hS (fun q _ h => hFc q h) hFc (fun ax t H locs ht hvm hB hS => ?_)
      obtain ⟨hP, -, hD1⟩ := hB
      rw [ht] at hP
      have hD := hD1.weaken (fun _ _ _ h => hFc _ h)
      refine lv_astore (lv' := [(4, .ref ax), (0, .ref aO), (1, .int x1), (2, .int x2), (3, .ref aOUT)]) hx hb d_L_block_13 hl (by decide) rfl (fun ls hl => ?_)
      refine lv_iconst (v := 1) hx hb d_L_block_15 (by decide) ?_
      obtain rfl := Option.some.inj hf
      exact W.iret hx hb hr (fun t ht hW => ⟨⟨_, ws0, rfl, ⟨rfl, hN_OUT, hw⟩, by rw [ht]; exact hP, va_K.moved hW.alike hK, hD⟩, hS.F ht⟩) hS.2.2 d_L_block_16
    have hf := z_f ck1 hf
    by_cases ck2 : kx = 2
    · have hf := z_t ck2 hf
      subst ck2
      refine z_callThr (As := [.int x1, .int x2]) (rest := [.int (0 : Int32), .ref aOUT]) (b := aO) (k := 2) (hpc := 17) ⟨hx, hb, hml, hown, hts⟩ (c_F_block l hfl dC dI cI cL _ x1 x2 hN_O hN_K hN_KA (.inl 2) hc) (cw_L_21 hts ⟨Nat.le_of_ble_eq_true rfl, Nat.le_of_ble_eq_true rfl⟩) ⟨zbT, va_recv hK hP (ci := 0) rfl hN_O, zpT hP hK hZ hD hX (fun _ _ h _ => h)⟩ rfl hl.1 (Nat.le_of_ble_eq_true rfl) d_L_block_5 ⟨Nat.le_of_ble_eq_true rfl, Nat.le_of_ble_eq_true rfl⟩ (fun v u h => by obtain ⟨r1, h1, -⟩ := h; cases h1) (fun j h => (Sum.inl.inj h).symm) ⟨(xW_any (List.mem_of_getElem? (i := 4) rfl) (hX.2.2.2.1 _ (List.mem_of_getElem? (i := 4) rfl))), Or.inr ⟨⟨0, 10, 13, 13⟩, ⟨0, 10, 17, 15⟩, _, "java/lang/IndexOutOfBoundsException", htab, by decide, by decide, by decide, by decide, by decide, by decide, rfl, (hts _ k_400), (hts _ k_401), hX.2.2.2.2 _ (List.mem_of_getElem? (i := 0) rfl)⟩⟩ hS (fun q _ h => hFc q h) hFc (fun ax t H locs ht hvm hB hS => ?_)
      obtain ⟨hP, -, hD1⟩ := hB
      rw [ht] at hP
      have hD := hD1.weaken (fun _ _ _ h => hFc _ h)
      refine lv_astore (lv' := [(4, .ref ax), (0, .ref aO), (1, .int x1), (2, .int x2), (3, .ref aOUT)]) hx hb d_L_block_17 hl (by decide) rfl (fun ls hl => ?_)
      refine lv_iconst (v := 2) hx hb d_L_block_19 (by decide) ?_
      obtain rfl := Option.some.inj hf
      exact W.iret hx hb hr (fun t ht hW => ⟨⟨_, ws0, rfl, ⟨rfl, hN_OUT, hw⟩, by rw [ht]; exact hP, va_K.moved hW.alike hK, hD⟩, hS.F ht⟩) hS.2.2 d_L_block_20
    have hf := z_f ck2 hf
    cases hf
  · have hf := z_sr hf
    refine z_callRet (As := [.int x1, .int x2]) (rest := [.int (0 : Int32), .ref aOUT]) (b := aO) ⟨hx, hb, hml, hown, hts⟩ (c_F_block l hfl dC dI cI cL _ x1 x2 hN_O hN_K hN_KA (.inr r1) hc) (cw_L_21 hts ⟨Nat.le_of_ble_eq_true rfl, Nat.le_of_ble_eq_true rfl⟩) ⟨zbT, va_recv hK hP (ci := 0) rfl hN_O, zpT hP hK hZ hD hX (fun _ _ h _ => h)⟩ rfl hl.1 (Nat.le_of_ble_eq_true rfl) d_L_block_5 ⟨Nat.le_of_ble_eq_true rfl, Nat.le_of_ble_eq_true rfl⟩ (fun k h => by cases h) hS (fun q _ h => hFc q h) hFc (fun rv ws t H locs ht hvm hu hB hS => ?_)
    obtain ⟨r2, hq2, hv, hfr⟩ := hu
    obtain rfl := Sum.inr.inj hq2
    have hv := hv.symm
    subst hv
    obtain ⟨hP, -, hD1⟩ := hB
    rw [ht] at hP
    have hD := hD1.weaken (fun _ _ _ h => hFc _ h)
    have hN_O := (hfr _ (by decide)).trans hN_O
    have hN_K := (hfr _ (by decide)).trans hN_K
    have hN_KA := (hfr _ (by decide)).trans hN_KA
    have hN_OUT := (hfr _ (by decide)).trans hN_OUT
    have hw := z_frC (by decide) hw hfr
    refine lv_i2l hx hb d_L_block_8 rfl ?_
    obtain ⟨hin, hf⟩ := z_no hf
    refine z_last hx hb hK hP hD hS hN_OUT rfl hin d_L_block_9 (fun ws H locs hP hD hS hN_OUT hfr => ?_)
    have hN_OUT : zA ws 34 (aOUT, .inl (cL, OUT_n, .inr (.inl (vp_updL OUT_f (0 : Int32).toNatClampNeg r1.toInt64)))) := hN_OUT
    have hN_O := (hfr _ (by decide)).trans hN_O
    have hN_K := (hfr _ (by decide)).trans hN_K
    have hN_KA := (hfr _ (by decide)).trans hN_KA
    have hw := z_fr (by decide) hw hfr
    refine lv_goto (tgt := 21) hx hb d_L_block_10 (by decide) ?_
    refine lv_iconst (v := 0) hx hb d_L_block_21 (by decide) ?_
    obtain rfl := Option.some.inj hf
    exact W.iret hx hb hr (fun t ht hW => ⟨⟨_, ws, rfl, ⟨rfl, hN_OUT, hw⟩, by rw [ht]; exact hP, va_K.moved hW.alike hK, hD⟩, hS.F ht⟩) hS.2.2 d_L_block_22
def f_L_byteAt (x1 : Int32) (C_filled : Int32) (CA_n : Nat) (CA_f : Nat → Int32) (OUT_n : Nat) (OUT_f : Nat → Int64) : Option (Int32 × (Nat → Int64)) := (f_F_byteAt x1 C_filled CA_n CA_f).bind (fun q1117 => Sum.elim (fun kx => if kx = 1 then (some ((1 : Int32), OUT_f)) else (none)) (fun r1 => if (0 : Int32) < 0 ∨ OUT_n ≤ (0 : Int32).toNatClampNeg then none else (some ((0 : Int32), (vp_updL OUT_f (0 : Int32).toNatClampNeg r1.toInt64)))) q1117)
set_option maxHeartbeats 4000000 in
set_option maxRecDepth 100000 in
theorem c_L_byteAt (l : Launch) (hfl : l.flags = pinnedFlags ++ [noTraceFlag]) (dC : Nat → ClassId) (dI : Nat → Nat → Nat) (cI cL : ClassId) {ws0 : va_W} (sz : Nat) {aO aP aN aH aV aS aK aT aC aI aCA aOUT : Nat} {O_side C_filled C_taken : Int32} {CA_n OUT_n : Nat} {CA_f : Nat → Int32} {OUT_f : Nat → Int64} (x1 : Int32) (hN_O : zA ws0 0 (aO, .inr (0, [.int O_side, .ref aP, .ref aN, .ref aH, .ref aV, .ref aS, .ref aK, .ref aT, .ref aC, .ref aI]))) (hN_C : zA ws0 17 (aC, .inr (6, [.ref aCA, .int C_filled, .int C_taken]))) (hN_CA : zA ws0 18 (aCA, .inl (cI, CA_n, .inl CA_f))) (hN_OUT : zA ws0 34 (aOUT, .inl (cL, OUT_n, .inr (.inl OUT_f)))) (r : Int32 × (Nat → Int64)) (hf : f_L_byteAt x1 C_filled CA_n CA_f OUT_n OUT_f = some r) : Met l y_L_byteAt w_L_byteAt rm_L_byteAt (va_Pc [.ref aO, .int x1, .ref aOUT] (zMT dC dI cI cL ws0 sz)) (va_Qi (fun (v : Int32) (ws' : va_W) => v = r.1 ∧ zA ws' 34 (aOUT, .inl (cL, OUT_n, .inr (.inl r.2))) ∧ ∀ (j : Nat), j ∉ ([34] : List Nat) → ws'[j]? = ws0[j]?) (zQ dC dI cI cL (va_A ws0 sz)) (va_A ws0 sz)) 1 6 (va_A ws0 sz) := by
  refine va_MetW (cc := b_L_byteAt) (maxL := 4) (ret := some .int) (by decide) rfl ?_
  intro p e s m args below meth c s₁ B hml hv
  obtain ⟨rfl, hsz, hP, hK, hZ, hD0, hX⟩ := hv
  have hx := B.exec
  have hb := B.bytes
  have hr := B.returns
  have hlocks := B.notSynchronized
  have hts : ∀ w ∈ BIG, w.before ([.ref aO, .int x1, .ref aOUT] : List Value).toArray s = true := fun w h => atoms_spec (ws := w_L_byteAt) B.pre w (List.mem_cons_of_mem _ h)
  have hown : s.vm.findClass "FractalMapsLaw" = some m.cls := findClass_of_methodNamed B.named
  have htab : c.exceptionTable.toList = [⟨0, 9, 12, 13⟩] := z_table B (atoms_spec (ws := w_L_byteAt) B.pre _ List.mem_cons_self)
  subst hsz
  have hD := hD0.self (sz := s.heap.size)
  generalize hAe : va_A ws0 s.heap.size = A at hD ⊢
  have hA : ∀ q : Nat, s.heap.size ≤ q → A q := fun q h => by rw [← hAe]; exact Or.inr h
  have hS : va_S A s.heap s.heap [] := va_S.rf
  have hw : ∀ (j : Nat), j ∉ ([34] : List Nat) → ws0[j]? = ws0[j]? := fun _ _ => rfl
  have hl := lv_entry ([.ref aO, .int x1, .ref aOUT]) (n := 4) (Nat.le_of_ble_eq_true rfl)
  rw [lg_entry_eq]
  generalize (lg_sl ([.ref aO, .int x1, .ref aOUT]) ++ List.replicate (4 - (lg_sl ([.ref aO, .int x1, .ref aOUT])).length) Slot.unset).toArray = ls at hl ⊢
  have hl : lv_has ls 4 [(0, .ref aO), (1, .int x1), (2, .ref aOUT)] := hl
  unfold f_L_byteAt at hf
  refine lv_aload_n hx hb d_L_byteAt_0 rfl (lv_at hl 2 rfl) ?_
  refine lv_iconst (v := 0) hx hb d_L_byteAt_1 (by decide) ?_
  refine lv_aload_n hx hb d_L_byteAt_2 rfl (lv_at hl 0 rfl) ?_
  refine lv_iload_n hx hb d_L_byteAt_3 rfl (lv_at hl 1 rfl) ?_
  obtain ⟨q1117, hc, hf⟩ := z_b hf
  have hFc := z_free hD hS hA
  rcases q1117 with kx | r1
  · have hf := z_sl hf
    by_cases ck1 : kx = 1
    · have hf := z_t ck1 hf
      subst ck1
      refine z_callThr (As := [.int x1]) (rest := [.int (0 : Int32), .ref aOUT]) (b := aO) (k := 1) (hpc := 12) ⟨hx, hb, hml, hown, hts⟩ (c_F_byteAt l hfl dC dI cI cL _ x1 hN_O hN_C hN_CA (.inl 1) hc) (cw_L_24 hts ⟨Nat.le_of_ble_eq_true rfl, Nat.le_of_ble_eq_true rfl⟩) ⟨zbT, va_recv hK hP (ci := 0) rfl hN_O, zpT hP hK hZ hD hX (fun _ _ h _ => h)⟩ rfl hl.1 (Nat.le_of_ble_eq_true rfl) d_L_byteAt_4 ⟨Nat.le_of_ble_eq_true rfl, Nat.le_of_ble_eq_true rfl⟩ (fun v u h => by obtain ⟨r1, h1, -⟩ := h; cases h1) (fun j h => (Sum.inl.inj h).symm) ⟨(xW_any (List.mem_of_getElem? (i := 3) rfl) (hX.2.2.2.1 _ (List.mem_of_getElem? (i := 3) rfl))), Or.inl ⟨⟨0, 9, 12, 13⟩, _, htab, by decide, by decide, by decide, rfl, (hts _ k_400)⟩⟩ hS (fun q _ h => hFc q h) hFc (fun ax t H locs ht hvm hB hS => ?_)
      obtain ⟨hP, -, hD1⟩ := hB
      rw [ht] at hP
      have hD := hD1.weaken (fun _ _ _ h => hFc _ h)
      refine lv_astore_n (lv' := [(3, .ref ax), (0, .ref aO), (1, .int x1), (2, .ref aOUT)]) hx hb d_L_byteAt_12 rfl hl (by decide) rfl (fun ls hl => ?_)
      refine lv_iconst (v := 1) hx hb d_L_byteAt_13 (by decide) ?_
      obtain rfl := Option.some.inj hf
      exact W.iret hx hb hr (fun t ht hW => ⟨⟨_, ws0, rfl, ⟨rfl, hN_OUT, hw⟩, by rw [ht]; exact hP, va_K.moved hW.alike hK, hD⟩, hS.F ht⟩) hS.2.2 d_L_byteAt_14
    have hf := z_f ck1 hf
    cases hf
  · have hf := z_sr hf
    refine z_callRet (As := [.int x1]) (rest := [.int (0 : Int32), .ref aOUT]) (b := aO) ⟨hx, hb, hml, hown, hts⟩ (c_F_byteAt l hfl dC dI cI cL _ x1 hN_O hN_C hN_CA (.inr r1) hc) (cw_L_24 hts ⟨Nat.le_of_ble_eq_true rfl, Nat.le_of_ble_eq_true rfl⟩) ⟨zbT, va_recv hK hP (ci := 0) rfl hN_O, zpT hP hK hZ hD hX (fun _ _ h _ => h)⟩ rfl hl.1 (Nat.le_of_ble_eq_true rfl) d_L_byteAt_4 ⟨Nat.le_of_ble_eq_true rfl, Nat.le_of_ble_eq_true rfl⟩ (fun k h => by cases h) hS (fun q _ h => hFc q h) hFc (fun rv ws t H locs ht hvm hu hB hS => ?_)
    obtain ⟨r2, hq2, hv, hfr⟩ := hu
    obtain rfl := Sum.inr.inj hq2
    have hv := hv.symm
    subst hv
    obtain ⟨hP, -, hD1⟩ := hB
    rw [ht] at hP
    have hD := hD1.weaken (fun _ _ _ h => hFc _ h)
    have hN_O := (hfr _ (by decide)).trans hN_O
    have hN_C := (hfr _ (by decide)).trans hN_C
    have hN_CA := (hfr _ (by decide)).trans hN_CA
    have hN_OUT := (hfr _ (by decide)).trans hN_OUT
    have hw := z_frC (by decide) hw hfr
    refine lv_i2l hx hb d_L_byteAt_7 rfl ?_
    obtain ⟨hin, hf⟩ := z_no hf
    refine z_last hx hb hK hP hD hS hN_OUT rfl hin d_L_byteAt_8 (fun ws H locs hP hD hS hN_OUT hfr => ?_)
    have hN_OUT : zA ws 34 (aOUT, .inl (cL, OUT_n, .inr (.inl (vp_updL OUT_f (0 : Int32).toNatClampNeg r1.toInt64)))) := hN_OUT
    have hN_O := (hfr _ (by decide)).trans hN_O
    have hN_C := (hfr _ (by decide)).trans hN_C
    have hN_CA := (hfr _ (by decide)).trans hN_CA
    have hw := z_fr (by decide) hw hfr
    refine lv_goto (tgt := 15) hx hb d_L_byteAt_9 (by decide) ?_
    refine lv_iconst (v := 0) hx hb d_L_byteAt_15 (by decide) ?_
    obtain rfl := Option.some.inj hf
    exact W.iret hx hb hr (fun t ht hW => ⟨⟨_, ws, rfl, ⟨rfl, hN_OUT, hw⟩, by rw [ht]; exact hP, va_K.moved hW.alike hK, hD⟩, hS.F ht⟩) hS.2.2 d_L_byteAt_16
def f_L_feed (x1 : Int32) (I_filled : Int32) (IA_n : Nat) (IA_f : Nat → Int32) (OUT_n : Nat) (OUT_f : Nat → Int64) : Option (Int32 × Int32 × (Nat → Int32) × (Nat → Int64)) := (f_F_feed x1 I_filled IA_n IA_f).bind (fun q1118 => Sum.elim (fun kx => if kx = 2 then (some ((1 : Int32), I_filled, IA_f, OUT_f)) else (if kx = 4 then (some ((2 : Int32), I_filled, IA_f, OUT_f)) else (none))) (fun r1 => if (0 : Int32) < 0 ∨ OUT_n ≤ (0 : Int32).toNatClampNeg then none else (some ((0 : Int32), r1.2.1, r1.2.2, (vp_updL OUT_f (0 : Int32).toNatClampNeg r1.1.toInt64)))) q1118)
set_option maxHeartbeats 4000000 in
set_option maxRecDepth 100000 in
theorem c_L_feed (l : Launch) (hfl : l.flags = pinnedFlags ++ [noTraceFlag]) (dC : Nat → ClassId) (dI : Nat → Nat → Nat) (cI cL : ClassId) {ws0 : va_W} (sz : Nat) {aO aP aN aH aV aS aK aT aC aI aIA aOUT : Nat} {O_side I_filled I_taken : Int32} {IA_n OUT_n : Nat} {IA_f : Nat → Int32} {OUT_f : Nat → Int64} (x1 : Int32) (hN_O : zA ws0 0 (aO, .inr (0, [.int O_side, .ref aP, .ref aN, .ref aH, .ref aV, .ref aS, .ref aK, .ref aT, .ref aC, .ref aI]))) (hN_I : zA ws0 19 (aI, .inr (6, [.ref aIA, .int I_filled, .int I_taken]))) (hN_IA : zA ws0 20 (aIA, .inl (cI, IA_n, .inl IA_f))) (hN_OUT : zA ws0 34 (aOUT, .inl (cL, OUT_n, .inr (.inl OUT_f)))) (r : Int32 × Int32 × (Nat → Int32) × (Nat → Int64)) (hf : f_L_feed x1 I_filled IA_n IA_f OUT_n OUT_f = some r) : Met l y_L_feed w_L_feed rm_L_feed (va_Pc [.ref aO, .int x1, .ref aOUT] (zMT dC dI cI cL ws0 sz)) (va_Qi (fun (v : Int32) (ws' : va_W) => v = r.1 ∧ zA ws' 19 (aI, .inr (6, [.ref aIA, .int r.2.1, .int I_taken])) ∧ zA ws' 20 (aIA, .inl (cI, IA_n, .inl r.2.2.1)) ∧ zA ws' 34 (aOUT, .inl (cL, OUT_n, .inr (.inl r.2.2.2))) ∧ ∀ (j : Nat), j ∉ ([19, 20, 34] : List Nat) → ws'[j]? = ws0[j]?) (zQ dC dI cI cL (va_A ws0 sz)) (va_A ws0 sz)) 1 6 (va_A ws0 sz) := by
  refine va_MetW (cc := b_L_feed) (maxL := 4) (ret := some .int) (by decide) rfl ?_
  intro p e s m args below meth c s₁ B hml hv
  obtain ⟨rfl, hsz, hP, hK, hZ, hD0, hX⟩ := hv
  have hx := B.exec
  have hb := B.bytes
  have hr := B.returns
  have hlocks := B.notSynchronized
  have hts : ∀ w ∈ BIG, w.before ([.ref aO, .int x1, .ref aOUT] : List Value).toArray s = true := fun w h => atoms_spec (ws := w_L_feed) B.pre w (List.mem_cons_of_mem _ h)
  have hown : s.vm.findClass "FractalMapsLaw" = some m.cls := findClass_of_methodNamed B.named
  have htab : c.exceptionTable.toList = [⟨0, 9, 12, 15⟩, ⟨0, 9, 15, 31⟩] := z_table B (atoms_spec (ws := w_L_feed) B.pre _ List.mem_cons_self)
  subst hsz
  have hD := hD0.self (sz := s.heap.size)
  generalize hAe : va_A ws0 s.heap.size = A at hD ⊢
  have hA : ∀ q : Nat, s.heap.size ≤ q → A q := fun q h => by rw [← hAe]; exact Or.inr h
  have hS : va_S A s.heap s.heap [] := va_S.rf
  have hw : ∀ (j : Nat), j ∉ ([19, 20, 34] : List Nat) → ws0[j]? = ws0[j]? := fun _ _ => rfl
  have hl := lv_entry ([.ref aO, .int x1, .ref aOUT]) (n := 4) (Nat.le_of_ble_eq_true rfl)
  rw [lg_entry_eq]
  generalize (lg_sl ([.ref aO, .int x1, .ref aOUT]) ++ List.replicate (4 - (lg_sl ([.ref aO, .int x1, .ref aOUT])).length) Slot.unset).toArray = ls at hl ⊢
  have hl : lv_has ls 4 [(0, .ref aO), (1, .int x1), (2, .ref aOUT)] := hl
  unfold f_L_feed at hf
  refine lv_aload_n hx hb d_L_feed_0 rfl (lv_at hl 2 rfl) ?_
  refine lv_iconst (v := 0) hx hb d_L_feed_1 (by decide) ?_
  refine lv_aload_n hx hb d_L_feed_2 rfl (lv_at hl 0 rfl) ?_
  refine lv_iload_n hx hb d_L_feed_3 rfl (lv_at hl 1 rfl) ?_
  obtain ⟨q1118, hc, hf⟩ := z_b hf
  have hFc := z_free hD hS hA
  rcases q1118 with kx | r1
  · have hf := z_sl hf
    by_cases ck2 : kx = 2
    · have hf := z_t ck2 hf
      subst ck2
      refine z_callThr (As := [.int x1]) (rest := [.int (0 : Int32), .ref aOUT]) (b := aO) (k := 2) (hpc := 12) ⟨hx, hb, hml, hown, hts⟩ (c_F_feed l hfl dC dI cI cL _ x1 hN_O hN_I hN_IA (.inl 2) hc) (cw_L_28 hts ⟨Nat.le_of_ble_eq_true rfl, Nat.le_of_ble_eq_true rfl⟩) ⟨zbT, va_recv hK hP (ci := 0) rfl hN_O, zpT hP hK hZ hD hX (fun _ _ h _ => h)⟩ rfl hl.1 (Nat.le_of_ble_eq_true rfl) d_L_feed_4 ⟨Nat.le_of_ble_eq_true rfl, Nat.le_of_ble_eq_true rfl⟩ (fun v u h => by obtain ⟨r1, h1, -⟩ := h; cases h1) (fun j h => (Sum.inl.inj h).symm) ⟨(xW_any (List.mem_of_getElem? (i := 4) rfl) (hX.2.2.2.1 _ (List.mem_of_getElem? (i := 4) rfl))), Or.inl ⟨⟨0, 9, 12, 15⟩, _, htab, by decide, by decide, by decide, rfl, (hts _ k_401)⟩⟩ hS (fun q _ h => hFc q h) hFc (fun ax t H locs ht hvm hB hS => ?_)
      obtain ⟨hP, -, hD1⟩ := hB
      rw [ht] at hP
      have hD := hD1.weaken (fun _ _ _ h => hFc _ h)
      refine lv_astore_n (lv' := [(3, .ref ax), (0, .ref aO), (1, .int x1), (2, .ref aOUT)]) hx hb d_L_feed_12 rfl hl (by decide) rfl (fun ls hl => ?_)
      refine lv_iconst (v := 1) hx hb d_L_feed_13 (by decide) ?_
      obtain rfl := Option.some.inj hf
      exact W.iret hx hb hr (fun t ht hW => ⟨⟨_, ws0, rfl, ⟨rfl, hN_I, hN_IA, hN_OUT, hw⟩, by rw [ht]; exact hP, va_K.moved hW.alike hK, hD⟩, hS.F ht⟩) hS.2.2 d_L_feed_14
    have hf := z_f ck2 hf
    by_cases ck4 : kx = 4
    · have hf := z_t ck4 hf
      subst ck4
      refine z_callThr (As := [.int x1]) (rest := [.int (0 : Int32), .ref aOUT]) (b := aO) (k := 4) (hpc := 15) ⟨hx, hb, hml, hown, hts⟩ (c_F_feed l hfl dC dI cI cL _ x1 hN_O hN_I hN_IA (.inl 4) hc) (cw_L_28 hts ⟨Nat.le_of_ble_eq_true rfl, Nat.le_of_ble_eq_true rfl⟩) ⟨zbT, va_recv hK hP (ci := 0) rfl hN_O, zpT hP hK hZ hD hX (fun _ _ h _ => h)⟩ rfl hl.1 (Nat.le_of_ble_eq_true rfl) d_L_feed_4 ⟨Nat.le_of_ble_eq_true rfl, Nat.le_of_ble_eq_true rfl⟩ (fun v u h => by obtain ⟨r1, h1, -⟩ := h; cases h1) (fun j h => (Sum.inl.inj h).symm) ⟨(xW_any (List.mem_of_getElem? (i := 6) rfl) (hX.2.2.2.1 _ (List.mem_of_getElem? (i := 6) rfl))), Or.inr ⟨⟨0, 9, 12, 15⟩, ⟨0, 9, 15, 31⟩, _, "java/lang/IllegalArgumentException", htab, by decide, by decide, by decide, by decide, by decide, by decide, rfl, (hts _ k_401), (hts _ k_642), hX.2.2.2.2 _ (List.mem_of_getElem? (i := 1) rfl)⟩⟩ hS (fun q _ h => hFc q h) hFc (fun ax t H locs ht hvm hB hS => ?_)
      obtain ⟨hP, -, hD1⟩ := hB
      rw [ht] at hP
      have hD := hD1.weaken (fun _ _ _ h => hFc _ h)
      refine lv_astore_n (lv' := [(3, .ref ax), (0, .ref aO), (1, .int x1), (2, .ref aOUT)]) hx hb d_L_feed_15 rfl hl (by decide) rfl (fun ls hl => ?_)
      refine lv_iconst (v := 2) hx hb d_L_feed_16 (by decide) ?_
      obtain rfl := Option.some.inj hf
      exact W.iret hx hb hr (fun t ht hW => ⟨⟨_, ws0, rfl, ⟨rfl, hN_I, hN_IA, hN_OUT, hw⟩, by rw [ht]; exact hP, va_K.moved hW.alike hK, hD⟩, hS.F ht⟩) hS.2.2 d_L_feed_17
    have hf := z_f ck4 hf
    cases hf
  · have hf := z_sr hf
    refine z_callRet (As := [.int x1]) (rest := [.int (0 : Int32), .ref aOUT]) (b := aO) ⟨hx, hb, hml, hown, hts⟩ (c_F_feed l hfl dC dI cI cL _ x1 hN_O hN_I hN_IA (.inr r1) hc) (cw_L_28 hts ⟨Nat.le_of_ble_eq_true rfl, Nat.le_of_ble_eq_true rfl⟩) ⟨zbT, va_recv hK hP (ci := 0) rfl hN_O, zpT hP hK hZ hD hX (fun _ _ h _ => h)⟩ rfl hl.1 (Nat.le_of_ble_eq_true rfl) d_L_feed_4 ⟨Nat.le_of_ble_eq_true rfl, Nat.le_of_ble_eq_true rfl⟩ (fun k h => by cases h) hS (fun q _ h => hFc q h) hFc (fun rv ws t H locs ht hvm hu hB hS => ?_)
    obtain ⟨r2, hq2, hv, hN_I, hN_IA, hfr⟩ := hu
    obtain rfl := Sum.inr.inj hq2
    have hv := hv.symm
    subst hv
    obtain ⟨hP, -, hD1⟩ := hB
    rw [ht] at hP
    have hD := hD1.weaken (fun _ _ _ h => hFc _ h)
    have hN_I : zA ws 19 (aI, .inr (6, [.ref aIA, .int r1.2.1, .int I_taken])) := hN_I
    have hN_IA : zA ws 20 (aIA, .inl (cI, IA_n, .inl r1.2.2)) := hN_IA
    have hN_O := (hfr _ (by decide)).trans hN_O
    have hN_OUT := (hfr _ (by decide)).trans hN_OUT
    have hw := z_frC (by decide) hw hfr
    refine lv_i2l hx hb d_L_feed_7 rfl ?_
    obtain ⟨hin, hf⟩ := z_no hf
    refine z_last hx hb hK hP hD hS hN_OUT rfl hin d_L_feed_8 (fun ws H locs hP hD hS hN_OUT hfr => ?_)
    have hN_OUT : zA ws 34 (aOUT, .inl (cL, OUT_n, .inr (.inl (vp_updL OUT_f (0 : Int32).toNatClampNeg r1.1.toInt64)))) := hN_OUT
    have hN_O := (hfr _ (by decide)).trans hN_O
    have hN_I := (hfr _ (by decide)).trans hN_I
    have hN_IA := (hfr _ (by decide)).trans hN_IA
    have hw := z_fr (by decide) hw hfr
    refine lv_goto (tgt := 18) hx hb d_L_feed_9 (by decide) ?_
    refine lv_iconst (v := 0) hx hb d_L_feed_18 (by decide) ?_
    obtain rfl := Option.some.inj hf
    exact W.iret hx hb hr (fun t ht hW => ⟨⟨_, ws, rfl, ⟨rfl, hN_I, hN_IA, hN_OUT, hw⟩, by rw [ht]; exact hP, va_K.moved hW.alike hK, hD⟩, hS.F ht⟩) hS.2.2 d_L_feed_19
def f_L_pass (C_filled : Int32) (CA_n : Nat) (CA_f : Nat → Int32) (I_filled : Int32) (IA_n : Nat) (IA_f : Nat → Int32) (OUT_n : Nat) (OUT_f : Nat → Int64) : Option (Int32 × Int32 × (Nat → Int32) × (Nat → Int64)) := (f_F_pass C_filled CA_n CA_f I_filled IA_n IA_f).bind (fun q1119 => Sum.elim (fun kx => if kx = 4 then (some ((1 : Int32), I_filled, IA_f, OUT_f)) else (none)) (fun r1 => if (0 : Int32) < 0 ∨ OUT_n ≤ (0 : Int32).toNatClampNeg then none else (some ((0 : Int32), r1.2.1, r1.2.2, (vp_updL OUT_f (0 : Int32).toNatClampNeg r1.1.toInt64)))) q1119)
set_option maxHeartbeats 4000000 in
set_option maxRecDepth 100000 in
theorem c_L_pass (l : Launch) (hfl : l.flags = pinnedFlags ++ [noTraceFlag]) (dC : Nat → ClassId) (dI : Nat → Nat → Nat) (cI cL : ClassId) {ws0 : va_W} (sz : Nat) {aO aP aN aH aV aS aK aT aC aI aCA aIA aOUT : Nat} {O_side C_filled C_taken I_filled I_taken : Int32} {CA_n IA_n OUT_n : Nat} {CA_f IA_f : Nat → Int32} {OUT_f : Nat → Int64} (hN_O : zA ws0 0 (aO, .inr (0, [.int O_side, .ref aP, .ref aN, .ref aH, .ref aV, .ref aS, .ref aK, .ref aT, .ref aC, .ref aI]))) (hN_C : zA ws0 17 (aC, .inr (6, [.ref aCA, .int C_filled, .int C_taken]))) (hN_CA : zA ws0 18 (aCA, .inl (cI, CA_n, .inl CA_f))) (hN_I : zA ws0 19 (aI, .inr (6, [.ref aIA, .int I_filled, .int I_taken]))) (hN_IA : zA ws0 20 (aIA, .inl (cI, IA_n, .inl IA_f))) (hN_OUT : zA ws0 34 (aOUT, .inl (cL, OUT_n, .inr (.inl OUT_f)))) (r : Int32 × Int32 × (Nat → Int32) × (Nat → Int64)) (hf : f_L_pass C_filled CA_n CA_f I_filled IA_n IA_f OUT_n OUT_f = some r) : Met l y_L_pass w_L_pass rm_L_pass (va_Pc [.ref aO, .ref aOUT] (zMT dC dI cI cL ws0 sz)) (va_Qi (fun (v : Int32) (ws' : va_W) => v = r.1 ∧ zA ws' 19 (aI, .inr (6, [.ref aIA, .int r.2.1, .int I_taken])) ∧ zA ws' 20 (aIA, .inl (cI, IA_n, .inl r.2.2.1)) ∧ zA ws' 34 (aOUT, .inl (cL, OUT_n, .inr (.inl r.2.2.2))) ∧ ∀ (j : Nat), j ∉ ([19, 20, 34] : List Nat) → ws'[j]? = ws0[j]?) (zQ dC dI cI cL (va_A ws0 sz)) (va_A ws0 sz)) 1 6 (va_A ws0 sz) := by
  refine va_MetW (cc := b_L_pass) (maxL := 3) (ret := some .int) (by decide) rfl ?_
  intro p e s m args below meth c s₁ B hml hv
  obtain ⟨rfl, hsz, hP, hK, hZ, hD0, hX⟩ := hv
  have hx := B.exec
  have hb := B.bytes
  have hr := B.returns
  have hlocks := B.notSynchronized
  have hts : ∀ w ∈ BIG, w.before ([.ref aO, .ref aOUT] : List Value).toArray s = true := fun w h => atoms_spec (ws := w_L_pass) B.pre w (List.mem_cons_of_mem _ h)
  have hown : s.vm.findClass "FractalMapsLaw" = some m.cls := findClass_of_methodNamed B.named
  have htab : c.exceptionTable.toList = [⟨0, 8, 11, 31⟩] := z_table B (atoms_spec (ws := w_L_pass) B.pre _ List.mem_cons_self)
  subst hsz
  have hD := hD0.self (sz := s.heap.size)
  generalize hAe : va_A ws0 s.heap.size = A at hD ⊢
  have hA : ∀ q : Nat, s.heap.size ≤ q → A q := fun q h => by rw [← hAe]; exact Or.inr h
  have hS : va_S A s.heap s.heap [] := va_S.rf
  have hw : ∀ (j : Nat), j ∉ ([19, 20, 34] : List Nat) → ws0[j]? = ws0[j]? := fun _ _ => rfl
  have hl := lv_entry ([.ref aO, .ref aOUT]) (n := 3) (Nat.le_of_ble_eq_true rfl)
  rw [lg_entry_eq]
  generalize (lg_sl ([.ref aO, .ref aOUT]) ++ List.replicate (3 - (lg_sl ([.ref aO, .ref aOUT])).length) Slot.unset).toArray = ls at hl ⊢
  have hl : lv_has ls 3 [(0, .ref aO), (1, .ref aOUT)] := hl
  unfold f_L_pass at hf
  refine lv_aload_n hx hb d_L_pass_0 rfl (lv_at hl 1 rfl) ?_
  refine lv_iconst (v := 0) hx hb d_L_pass_1 (by decide) ?_
  refine lv_aload_n hx hb d_L_pass_2 rfl (lv_at hl 0 rfl) ?_
  obtain ⟨q1119, hc, hf⟩ := z_b hf
  have hFc := z_free hD hS hA
  rcases q1119 with kx | r1
  · have hf := z_sl hf
    by_cases ck4 : kx = 4
    · have hf := z_t ck4 hf
      subst ck4
      refine z_callThr (As := []) (rest := [.int (0 : Int32), .ref aOUT]) (b := aO) (k := 4) (hpc := 11) ⟨hx, hb, hml, hown, hts⟩ (c_F_pass l hfl dC dI cI cL _ hN_O hN_C hN_CA hN_I hN_IA (.inl 4) hc) (cw_L_33 hts ⟨Nat.le_of_ble_eq_true rfl, Nat.le_of_ble_eq_true rfl⟩) ⟨zbT, va_recv hK hP (ci := 0) rfl hN_O, zpT hP hK hZ hD hX (fun _ _ h _ => h)⟩ rfl hl.1 (Nat.le_of_ble_eq_true rfl) d_L_pass_3 ⟨Nat.le_of_ble_eq_true rfl, Nat.le_of_ble_eq_true rfl⟩ (fun v u h => by obtain ⟨r1, h1, -⟩ := h; cases h1) (fun j h => (Sum.inl.inj h).symm) ⟨(xW_any (List.mem_of_getElem? (i := 6) rfl) (hX.2.2.2.1 _ (List.mem_of_getElem? (i := 6) rfl))), Or.inl ⟨⟨0, 8, 11, 31⟩, _, htab, by decide, by decide, by decide, rfl, (hts _ k_642)⟩⟩ hS (fun q _ h => hFc q h) hFc (fun ax t H locs ht hvm hB hS => ?_)
      obtain ⟨hP, -, hD1⟩ := hB
      rw [ht] at hP
      have hD := hD1.weaken (fun _ _ _ h => hFc _ h)
      refine lv_astore_n (lv' := [(2, .ref ax), (0, .ref aO), (1, .ref aOUT)]) hx hb d_L_pass_11 rfl hl (by decide) rfl (fun ls hl => ?_)
      refine lv_iconst (v := 1) hx hb d_L_pass_12 (by decide) ?_
      obtain rfl := Option.some.inj hf
      exact W.iret hx hb hr (fun t ht hW => ⟨⟨_, ws0, rfl, ⟨rfl, hN_I, hN_IA, hN_OUT, hw⟩, by rw [ht]; exact hP, va_K.moved hW.alike hK, hD⟩, hS.F ht⟩) hS.2.2 d_L_pass_13
    have hf := z_f ck4 hf
    cases hf
  · have hf := z_sr hf
    refine z_callRet (As := []) (rest := [.int (0 : Int32), .ref aOUT]) (b := aO) ⟨hx, hb, hml, hown, hts⟩ (c_F_pass l hfl dC dI cI cL _ hN_O hN_C hN_CA hN_I hN_IA (.inr r1) hc) (cw_L_33 hts ⟨Nat.le_of_ble_eq_true rfl, Nat.le_of_ble_eq_true rfl⟩) ⟨zbT, va_recv hK hP (ci := 0) rfl hN_O, zpT hP hK hZ hD hX (fun _ _ h _ => h)⟩ rfl hl.1 (Nat.le_of_ble_eq_true rfl) d_L_pass_3 ⟨Nat.le_of_ble_eq_true rfl, Nat.le_of_ble_eq_true rfl⟩ (fun k h => by cases h) hS (fun q _ h => hFc q h) hFc (fun rv ws t H locs ht hvm hu hB hS => ?_)
    obtain ⟨r2, hq2, hv, hN_I, hN_IA, hfr⟩ := hu
    obtain rfl := Sum.inr.inj hq2
    have hv := hv.symm
    subst hv
    obtain ⟨hP, -, hD1⟩ := hB
    rw [ht] at hP
    have hD := hD1.weaken (fun _ _ _ h => hFc _ h)
    have hN_I : zA ws 19 (aI, .inr (6, [.ref aIA, .int r1.2.1, .int I_taken])) := hN_I
    have hN_IA : zA ws 20 (aIA, .inl (cI, IA_n, .inl r1.2.2)) := hN_IA
    have hN_O := (hfr _ (by decide)).trans hN_O
    have hN_C := (hfr _ (by decide)).trans hN_C
    have hN_CA := (hfr _ (by decide)).trans hN_CA
    have hN_OUT := (hfr _ (by decide)).trans hN_OUT
    have hw := z_frC (by decide) hw hfr
    refine lv_i2l hx hb d_L_pass_6 rfl ?_
    obtain ⟨hin, hf⟩ := z_no hf
    refine z_last hx hb hK hP hD hS hN_OUT rfl hin d_L_pass_7 (fun ws H locs hP hD hS hN_OUT hfr => ?_)
    have hN_OUT : zA ws 34 (aOUT, .inl (cL, OUT_n, .inr (.inl (vp_updL OUT_f (0 : Int32).toNatClampNeg r1.1.toInt64)))) := hN_OUT
    have hN_O := (hfr _ (by decide)).trans hN_O
    have hN_C := (hfr _ (by decide)).trans hN_C
    have hN_CA := (hfr _ (by decide)).trans hN_CA
    have hN_I := (hfr _ (by decide)).trans hN_I
    have hN_IA := (hfr _ (by decide)).trans hN_IA
    have hw := z_fr (by decide) hw hfr
    refine lv_goto (tgt := 14) hx hb d_L_pass_8 (by decide) ?_
    refine lv_iconst (v := 0) hx hb d_L_pass_14 (by decide) ?_
    obtain rfl := Option.some.inj hf
    exact W.iret hx hb hr (fun t ht hW => ⟨⟨_, ws, rfl, ⟨rfl, hN_I, hN_IA, hN_OUT, hw⟩, by rw [ht]; exact hP, va_K.moved hW.alike hK, hD⟩, hS.F ht⟩) hS.2.2 d_L_pass_15
