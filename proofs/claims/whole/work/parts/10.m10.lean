def f_F_encode (x1 : Int32) (x2 : Int32) (O_side : Int32) (P_side : Int32) (PA_n : Nat) (PA_f : Nat → Int32) (H_mostSide : Int32) (H_side : Int32) (HA_n : Nat) (HA_f : Nat → Int32) (V_left : Int32) (V_top : Int32) (V_start : Int32) (V_stepAcross : Int32) (V_stepDown : Int32) (S_tried : Int32) (S_size : Int32) (S_count : Int32) (S_wantedSum : Int32) (S_foundSum : Int32) (S_foundSquares : Int32) (W_n : Nat) (W_f : Nat → Int32) (D_n : Nat) (D_f : Nat → Int32) (Q_n : Nat) (Q_f : Nat → Int32) (R_n : Nat) (R_f : Nat → Int32) (E_domain : Int32) (E_turn : Int32) (E_contrast : Int32) (E_offset : Int32) (E_error : Int32) (K_count : Int32) (KA_n : Nat) (KA_f : Nat → Int32) (C_filled : Int32) (CA_n : Nat) (CA_f : Nat → Int32) : Option (Nat ⊕ (Int32 × Int32 × (Nat → Int32) × Int32 × Int32 × Int32 × Int32 × Int32 × Int32 × Int32 × Int32 × Int32 × Int32 × Int32 × (Nat → Int32) × (Nat → Int32) × (Nat → Int32) × (Nat → Int32) × Int32 × Int32 × Int32 × Int32 × Int32 × Int32 × (Nat → Int32) × Int32 × Int32 × (Nat → Int32))) := (f_F_isSize x1).bind (fun q460 => if q460 = 0 then (some (.inl 2)) else (if x1 ≤ (O_side / (2 : Int32)) then (if 0 ≤ x2 then ((f_K_wipe).bind (fun q462 => (f_B_wipe).bind (fun q463 => (f_S_start P_side PA_n PA_f H_mostSide H_side HA_n HA_f).bind (fun q464 => (f_F_sizeNumber x1).bind (fun q465 => (f_B_append q465 (3 : Int32) q463.1 CA_n CA_f).bind (fun q467 => (f_F_encodeQuarters 6 (0 : Int32) (0 : Int32) (O_side / (2 : Int32)) x1 x2 O_side P_side PA_n PA_f q464.2.1 HA_n q464.2.2 V_left V_top V_start V_stepAcross V_stepDown q464.1 S_size S_count S_wantedSum S_foundSum S_foundSquares W_n W_f D_n D_f Q_n Q_f R_n R_f E_domain E_turn E_contrast E_offset E_error q462 KA_n KA_f q467.1 CA_n q467.2).bind (fun q468 => some (.inr (q468.2.2.2.2.2.2.2.2.2.2.2.2.2.2.2.2.2.2.2.2.1, q464.2.1, q464.2.2, q468.1, q468.2.1, q468.2.2.1, q468.2.2.2.1, q468.2.2.2.2.1, q468.2.2.2.2.2.1, q468.2.2.2.2.2.2.1, q468.2.2.2.2.2.2.2.1, q468.2.2.2.2.2.2.2.2.1, q468.2.2.2.2.2.2.2.2.2.1, q468.2.2.2.2.2.2.2.2.2.2.1, q468.2.2.2.2.2.2.2.2.2.2.2.1, q468.2.2.2.2.2.2.2.2.2.2.2.2.1, q468.2.2.2.2.2.2.2.2.2.2.2.2.2.1, q468.2.2.2.2.2.2.2.2.2.2.2.2.2.2.1, q468.2.2.2.2.2.2.2.2.2.2.2.2.2.2.2.1, q468.2.2.2.2.2.2.2.2.2.2.2.2.2.2.2.2.1, q468.2.2.2.2.2.2.2.2.2.2.2.2.2.2.2.2.2.1, q468.2.2.2.2.2.2.2.2.2.2.2.2.2.2.2.2.2.2.1, q468.2.2.2.2.2.2.2.2.2.2.2.2.2.2.2.2.2.2.2.1, q468.2.2.2.2.2.2.2.2.2.2.2.2.2.2.2.2.2.2.2.2.1, q468.2.2.2.2.2.2.2.2.2.2.2.2.2.2.2.2.2.2.2.2.2.1, q468.2.2.2.2.2.2.2.2.2.2.2.2.2.2.2.2.2.2.2.2.2.2.1, q463.2, q468.2.2.2.2.2.2.2.2.2.2.2.2.2.2.2.2.2.2.2.2.2.2.2))))))))) else (some (.inl 2))) else (some (.inl 2))))
set_option maxHeartbeats 4000000 in
set_option maxRecDepth 100000 in
theorem c_F_encode (l : Launch) (hfl : l.flags = pinnedFlags ++ [noTraceFlag]) (dC : Nat → ClassId) (dI : Nat → Nat → Nat) (cI cL : ClassId) {ws0 : va_W} (sz : Nat) {aO aP aN aH aV aS aK aT aC aI aPA aHA aW aD aQ aR aE aKA aCA : Nat} {O_side P_mostSide P_side H_mostSide H_side V_left V_top V_start V_stepAcross V_stepDown S_tried S_size S_count S_wantedSum S_foundSum S_foundSquares E_domain E_turn E_contrast E_offset E_error K_count C_filled C_taken : Int32} {PA_n HA_n W_n D_n Q_n R_n KA_n CA_n : Nat} {PA_f HA_f W_f D_f Q_f R_f KA_f CA_f : Nat → Int32} (x1 : Int32) (x2 : Int32) (hN_O : zA ws0 0 (aO, .inr (0, [.int O_side, .ref aP, .ref aN, .ref aH, .ref aV, .ref aS, .ref aK, .ref aT, .ref aC, .ref aI]))) (hN_P : zA ws0 1 (aP, .inr (1, [.int P_mostSide, .ref aPA, .int P_side]))) (hN_PA : zA ws0 2 (aPA, .inl (cI, PA_n, .inl PA_f))) (hN_H : zA ws0 5 (aH, .inr (1, [.int H_mostSide, .ref aHA, .int H_side]))) (hN_HA : zA ws0 6 (aHA, .inl (cI, HA_n, .inl HA_f))) (hN_V : zA ws0 7 (aV, .inr (2, [.ref aH, .int V_left, .int V_top, .int V_start, .int V_stepAcross, .int V_stepDown]))) (hN_S : zA ws0 8 (aS, .inr (3, [.ref aP, .ref aH, .ref aV, .ref aW, .ref aD, .ref aQ, .ref aR, .ref aE, .int S_tried, .int S_size, .int S_count, .int S_wantedSum, .int S_foundSum, .int S_foundSquares]))) (hN_W : zA ws0 9 (aW, .inl (cI, W_n, .inl W_f))) (hN_D : zA ws0 10 (aD, .inl (cI, D_n, .inl D_f))) (hN_Q : zA ws0 11 (aQ, .inl (cI, Q_n, .inl Q_f))) (hN_R : zA ws0 12 (aR, .inl (cI, R_n, .inl R_f))) (hN_E : zA ws0 13 (aE, .inr (4, [.int E_domain, .int E_turn, .int E_contrast, .int E_offset, .int E_error]))) (hN_K : zA ws0 14 (aK, .inr (5, [.ref aKA, .int K_count]))) (hN_KA : zA ws0 15 (aKA, .inl (cI, KA_n, .inl KA_f))) (hN_C : zA ws0 17 (aC, .inr (6, [.ref aCA, .int C_filled, .int C_taken]))) (hN_CA : zA ws0 18 (aCA, .inl (cI, CA_n, .inl CA_f))) (r : Nat ⊕ (Int32 × Int32 × (Nat → Int32) × Int32 × Int32 × Int32 × Int32 × Int32 × Int32 × Int32 × Int32 × Int32 × Int32 × Int32 × (Nat → Int32) × (Nat → Int32) × (Nat → Int32) × (Nat → Int32) × Int32 × Int32 × Int32 × Int32 × Int32 × Int32 × (Nat → Int32) × Int32 × Int32 × (Nat → Int32))) (hf : f_F_encode x1 x2 O_side P_side PA_n PA_f H_mostSide H_side HA_n HA_f V_left V_top V_start V_stepAcross V_stepDown S_tried S_size S_count S_wantedSum S_foundSum S_foundSquares W_n W_f D_n D_f Q_n Q_f R_n R_f E_domain E_turn E_contrast E_offset E_error K_count KA_n KA_f C_filled CA_n CA_f = some r) : MetT l y_F_encode w_F_encode rm_F_encode (va_Pc [.ref aO, .int x1, .int x2] (zMT dC dI cI cL ws0 sz)) (zX (fun (v : Int32) (ws' : va_W) => ∃ r1, r = .inr r1 ∧ v = r1.1 ∧ zA ws' 5 (aH, .inr (1, [.int H_mostSide, .ref aHA, .int r1.2.1])) ∧ zA ws' 6 (aHA, .inl (cI, HA_n, .inl r1.2.2.1)) ∧ zA ws' 7 (aV, .inr (2, [.ref aH, .int r1.2.2.2.1, .int r1.2.2.2.2.1, .int r1.2.2.2.2.2.1, .int r1.2.2.2.2.2.2.1, .int r1.2.2.2.2.2.2.2.1])) ∧ zA ws' 8 (aS, .inr (3, [.ref aP, .ref aH, .ref aV, .ref aW, .ref aD, .ref aQ, .ref aR, .ref aE, .int r1.2.2.2.2.2.2.2.2.1, .int r1.2.2.2.2.2.2.2.2.2.1, .int r1.2.2.2.2.2.2.2.2.2.2.1, .int r1.2.2.2.2.2.2.2.2.2.2.2.1, .int r1.2.2.2.2.2.2.2.2.2.2.2.2.1, .int r1.2.2.2.2.2.2.2.2.2.2.2.2.2.1])) ∧ zA ws' 9 (aW, .inl (cI, W_n, .inl r1.2.2.2.2.2.2.2.2.2.2.2.2.2.2.1)) ∧ zA ws' 10 (aD, .inl (cI, D_n, .inl r1.2.2.2.2.2.2.2.2.2.2.2.2.2.2.2.1)) ∧ zA ws' 11 (aQ, .inl (cI, Q_n, .inl r1.2.2.2.2.2.2.2.2.2.2.2.2.2.2.2.2.1)) ∧ zA ws' 12 (aR, .inl (cI, R_n, .inl r1.2.2.2.2.2.2.2.2.2.2.2.2.2.2.2.2.2.1)) ∧ zA ws' 13 (aE, .inr (4, [.int r1.2.2.2.2.2.2.2.2.2.2.2.2.2.2.2.2.2.2.1, .int r1.2.2.2.2.2.2.2.2.2.2.2.2.2.2.2.2.2.2.2.1, .int r1.2.2.2.2.2.2.2.2.2.2.2.2.2.2.2.2.2.2.2.2.1, .int r1.2.2.2.2.2.2.2.2.2.2.2.2.2.2.2.2.2.2.2.2.2.1, .int r1.2.2.2.2.2.2.2.2.2.2.2.2.2.2.2.2.2.2.2.2.2.2.1])) ∧ zA ws' 14 (aK, .inr (5, [.ref aKA, .int r1.2.2.2.2.2.2.2.2.2.2.2.2.2.2.2.2.2.2.2.2.2.2.2.1])) ∧ zA ws' 15 (aKA, .inl (cI, KA_n, .inl r1.2.2.2.2.2.2.2.2.2.2.2.2.2.2.2.2.2.2.2.2.2.2.2.2.1)) ∧ zA ws' 17 (aC, .inr (6, [.ref aCA, .int r1.2.2.2.2.2.2.2.2.2.2.2.2.2.2.2.2.2.2.2.2.2.2.2.2.2.1, .int r1.2.2.2.2.2.2.2.2.2.2.2.2.2.2.2.2.2.2.2.2.2.2.2.2.2.2.1])) ∧ zA ws' 18 (aCA, .inl (cI, CA_n, .inl r1.2.2.2.2.2.2.2.2.2.2.2.2.2.2.2.2.2.2.2.2.2.2.2.2.2.2.2)) ∧ ∀ (j : Nat), j ∉ ([5, 6, 7, 8, 9, 10, 11, 12, 13, 14, 15, 17, 18] : List Nat) → ws'[j]? = ws0[j]?) (fun k => r = .inl k) Value.int (zQ dC dI cI cL (va_A ws0 sz)) ws0 (va_A ws0 sz)) 1 6 (va_A ws0 sz) := by
  refine MetT.ofW (cc := b_F_encode) (maxL := 3) (ret := some .int) (by decide) rfl ?_
  intro p e s m args below meth c s₁ B hml hv
  obtain ⟨rfl, hsz, hP, hK, hZ, hD0, hX⟩ := hv
  have hx := B.exec
  have hb := B.bytes
  have hr := B.returns
  have hlocks := B.notSynchronized
  have hts : ∀ w ∈ BIG, w.before ([.ref aO, .int x1, .int x2] : List Value).toArray s = true := fun w h => atoms_spec (ws := w_F_encode) B.pre w (List.mem_cons_of_mem _ h)
  have hown : s.vm.findClass "FractalMaps" = some m.cls := findClass_of_methodNamed B.named
  have hout : c.exceptionTable.toList = [] := by simpa using B.noHandlers (atoms_spec (ws := w_F_encode) B.pre _ List.mem_cons_self)
  subst hsz
  have hD := hD0.self (sz := s.heap.size)
  generalize hAe : va_A ws0 s.heap.size = A at hD ⊢
  have hA : ∀ q : Nat, s.heap.size ≤ q → A q := fun q h => by rw [← hAe]; exact Or.inr h
  have hS : va_S A s.heap s.heap [] := va_S.rf
  have hw : ∀ (j : Nat), j ∉ ([5, 6, 7, 8, 9, 10, 11, 12, 13, 14, 15, 17, 18] : List Nat) → ws0[j]? = ws0[j]? := fun _ _ => rfl
  have hl := lv_entry ([.ref aO, .int x1, .int x2]) (n := 3) (Nat.le_of_ble_eq_true rfl)
  rw [lg_entry_eq]
  generalize (lg_sl ([.ref aO, .int x1, .int x2]) ++ List.replicate (3 - (lg_sl ([.ref aO, .int x1, .int x2])).length) Slot.unset).toArray = ls at hl ⊢
  have hl : lv_has ls 3 [(0, .ref aO), (1, .int x1), (2, .int x2)] := hl
  unfold f_F_encode at hf
  refine lv_iload_n hx hb d_F_encode_0 rfl (lv_at hl 1 rfl) ?_
  obtain ⟨q460, hc, hf⟩ := z_b hf
  refine vp_callSi (z_cr (va_runS (As := [.int x1]) (rest := []) ⟨hx, hb, hml, hown, hts⟩ (c_F_isSize l x1 q460 hc) (cw_F_110 hts ⟨Nat.le_of_ble_eq_true rfl, Nat.le_of_ble_eq_true rfl⟩) ⟨zb0, zp0⟩ rfl rfl hl.1 rfl (lv_room (Nat.le_of_ble_eq_true rfl)) d_F_encode_1 ⟨Nat.zero_le _, Nat.zero_le _⟩)) (fun r461 hv => ?_)
  have hv := hv.symm
  subst hv
  refine lv_if_eq (tgt := 17) hx hb d_F_encode_4 (by decide) (fun hc => ?_) (fun hc => ?_)
  · have hf := z_t hc hf
    obtain rfl := Option.some.inj hf
    exact z_throw (own := "FractalMaps") (cls := "java/lang/IllegalArgumentException") (tx := "no such least size") (names := exNames) (k := 2) hfl hx hb hml hl.1 hlocks hown hout hts hX hP hK hD hA (by decide +kernel) (by decide +kernel) oa_96 k_476 k_477 k_50 (by decide +kernel) rfl rfl d_F_encode_17 d_F_encode_20 d_F_encode_21 d_F_encode_23 d_F_encode_26 (Nat.le_of_ble_eq_true rfl) (Nat.le_of_ble_eq_true rfl) (Nat.le_of_ble_eq_true rfl) (Nat.le_of_ble_eq_true rfl)
  · have hf := z_f hc hf
    refine lv_iload_n hx hb d_F_encode_7 rfl (lv_at hl 1 rfl) ?_
    refine lv_aload_n hx hb d_F_encode_8 rfl (lv_at hl 0 rfl) ?_
    refine gf_F_16 (v := .int O_side) hx hb hts hown hK hP hN_O rfl d_F_encode_9 ?_
    refine lv_iconst (v := 2) hx hb d_F_encode_12 (by decide) ?_
    refine lv_idiv hx hb d_F_encode_13 (by decide) ?_
    refine lv_icmp_le (tgt := 27) hx hb d_F_encode_14 (by decide) (fun hc => ?_) (fun hc => ?_)
    · have hf := z_t hc hf
      refine lv_iload_n hx hb d_F_encode_27 rfl (lv_at hl 2 rfl) ?_
      refine lv_if_ge (tgt := 41) hx hb d_F_encode_28 (by decide) (fun hc => ?_) (fun hc => ?_)
      · have hf := z_t hc hf
        refine lv_aload_n hx hb d_F_encode_41 rfl (lv_at hl 0 rfl) ?_
        refine gf_F_60 (v := .ref aK) hx hb hts hown hK hP hN_O rfl d_F_encode_42 ?_
        obtain ⟨q462, hc, hf⟩ := z_b hf
        have hFc := z_free hD hS hA
        refine va_callv (va_runV (As := []) (rest := []) ⟨hx, hb, hml, hown, hts⟩ (c_K_wipe l dC dI cI cL _ hN_K q462 hc) (cw_F_118 hts ⟨Nat.le_of_ble_eq_true rfl, Nat.le_of_ble_eq_true rfl⟩) ⟨zbM, va_recv hK hP (ci := 5) rfl hN_K, (zpM hP hK hZ hD)⟩ rfl rfl hl.1 rfl (lv_room (Nat.le_of_ble_eq_true rfl)) d_F_encode_45 ⟨Nat.zero_le _, Nat.zero_le _⟩) hS (fun q _ h => hFc q h) hFc (fun ws t H locs ht hvm hu hB hz1 hk1 hS => ?_)
        obtain ⟨hN_K, hfr⟩ := hu
        obtain ⟨hP, -, hD1⟩ := hB
        rw [ht] at hP
        have hD := hD1.weaken (fun _ _ _ h => hFc _ h)
        have hN_K : zA ws 14 (aK, .inr (5, [.ref aKA, .int q462])) := hN_K
        have hN_O := (hfr _ (by decide)).trans hN_O
        have hN_P := (hfr _ (by decide)).trans hN_P
        have hN_PA := (hfr _ (by decide)).trans hN_PA
        have hN_H := (hfr _ (by decide)).trans hN_H
        have hN_HA := (hfr _ (by decide)).trans hN_HA
        have hN_V := (hfr _ (by decide)).trans hN_V
        have hN_S := (hfr _ (by decide)).trans hN_S
        have hN_W := (hfr _ (by decide)).trans hN_W
        have hN_D := (hfr _ (by decide)).trans hN_D
        have hN_Q := (hfr _ (by decide)).trans hN_Q
        have hN_R := (hfr _ (by decide)).trans hN_R
        have hN_E := (hfr _ (by decide)).trans hN_E
        have hN_KA := (hfr _ (by decide)).trans hN_KA
        have hN_C := (hfr _ (by decide)).trans hN_C
        have hN_CA := (hfr _ (by decide)).trans hN_CA
        have hw := z_frC (by decide) hw hfr
        refine lv_aload_n hx hb d_F_encode_48 rfl (lv_at hl 0 rfl) ?_
        refine gf_F_74 (v := .ref aC) hx hb hts hown hK hP hN_O rfl d_F_encode_49 ?_
        obtain ⟨q463, hc, hf⟩ := z_b hf
        have hFc := z_free hD hS hA
        refine va_callv (va_runV (As := []) (rest := []) ⟨hx, hb, hml, hown, hts⟩ (c_B_wipe l dC dI cI cL _ hN_C q463 hc) (cw_F_121 hts ⟨Nat.le_of_ble_eq_true rfl, Nat.le_of_ble_eq_true rfl⟩) ⟨zbM, va_recv hK hP (ci := 6) rfl hN_C, (zpM hP hK hZ hD)⟩ rfl rfl hl.1 rfl (lv_room (Nat.le_of_ble_eq_true rfl)) d_F_encode_52 ⟨Nat.zero_le _, Nat.zero_le _⟩) hS (fun q _ h => hFc q h) hFc (fun ws t H locs ht hvm hu hB hz1 hk1 hS => ?_)
        obtain ⟨hN_C, hfr⟩ := hu
        obtain ⟨hP, -, hD1⟩ := hB
        rw [ht] at hP
        have hD := hD1.weaken (fun _ _ _ h => hFc _ h)
        have hN_C : zA ws 17 (aC, .inr (6, [.ref aCA, .int q463.1, .int q463.2])) := hN_C
        have hN_O := (hfr _ (by decide)).trans hN_O
        have hN_P := (hfr _ (by decide)).trans hN_P
        have hN_PA := (hfr _ (by decide)).trans hN_PA
        have hN_H := (hfr _ (by decide)).trans hN_H
        have hN_HA := (hfr _ (by decide)).trans hN_HA
        have hN_V := (hfr _ (by decide)).trans hN_V
        have hN_S := (hfr _ (by decide)).trans hN_S
        have hN_W := (hfr _ (by decide)).trans hN_W
        have hN_D := (hfr _ (by decide)).trans hN_D
        have hN_Q := (hfr _ (by decide)).trans hN_Q
        have hN_R := (hfr _ (by decide)).trans hN_R
        have hN_E := (hfr _ (by decide)).trans hN_E
        have hN_K := (hfr _ (by decide)).trans hN_K
        have hN_KA := (hfr _ (by decide)).trans hN_KA
        have hN_CA := (hfr _ (by decide)).trans hN_CA
        have hw := z_frC (by decide) hw hfr
        refine lv_aload_n hx hb d_F_encode_55 rfl (lv_at hl 0 rfl) ?_
        refine gf_F_51 (v := .ref aS) hx hb hts hown hK hP hN_O rfl d_F_encode_56 ?_
        obtain ⟨q464, hc, hf⟩ := z_b hf
        have hFc := z_free hD hS hA
        refine va_callv (va_runV (As := []) (rest := []) ⟨hx, hb, hml, hown, hts⟩ (c_S_start l dC dI cI cL _ hN_S hN_P hN_PA hN_H hN_HA q464 hc) (cw_F_122 hts ⟨Nat.le_of_ble_eq_true rfl, Nat.le_of_ble_eq_true rfl⟩) ⟨zbM, va_recv hK hP (ci := 3) rfl hN_S, (zpM hP hK hZ hD)⟩ rfl rfl hl.1 rfl (lv_room (Nat.le_of_ble_eq_true rfl)) d_F_encode_59 ⟨Nat.zero_le _, Nat.zero_le _⟩) hS (fun q _ h => hFc q h) hFc (fun ws t H locs ht hvm hu hB hz1 hk1 hS => ?_)
        obtain ⟨hN_S, hN_H, hN_HA, hfr⟩ := hu
        obtain ⟨hP, -, hD1⟩ := hB
        rw [ht] at hP
        have hD := hD1.weaken (fun _ _ _ h => hFc _ h)
        have hN_S : zA ws 8 (aS, .inr (3, [.ref aP, .ref aH, .ref aV, .ref aW, .ref aD, .ref aQ, .ref aR, .ref aE, .int q464.1, .int S_size, .int S_count, .int S_wantedSum, .int S_foundSum, .int S_foundSquares])) := hN_S
        have hN_H : zA ws 5 (aH, .inr (1, [.int H_mostSide, .ref aHA, .int q464.2.1])) := hN_H
        have hN_HA : zA ws 6 (aHA, .inl (cI, HA_n, .inl q464.2.2)) := hN_HA
        have hN_O := (hfr _ (by decide)).trans hN_O
        have hN_P := (hfr _ (by decide)).trans hN_P
        have hN_PA := (hfr _ (by decide)).trans hN_PA
        have hN_V := (hfr _ (by decide)).trans hN_V
        have hN_W := (hfr _ (by decide)).trans hN_W
        have hN_D := (hfr _ (by decide)).trans hN_D
        have hN_Q := (hfr _ (by decide)).trans hN_Q
        have hN_R := (hfr _ (by decide)).trans hN_R
        have hN_E := (hfr _ (by decide)).trans hN_E
        have hN_K := (hfr _ (by decide)).trans hN_K
        have hN_KA := (hfr _ (by decide)).trans hN_KA
        have hN_C := (hfr _ (by decide)).trans hN_C
        have hN_CA := (hfr _ (by decide)).trans hN_CA
        have hw := z_frC (by decide) hw hfr
        refine lv_aload_n hx hb d_F_encode_62 rfl (lv_at hl 0 rfl) ?_
        refine gf_F_74 (v := .ref aC) hx hb hts hown hK hP hN_O rfl d_F_encode_63 ?_
        refine lv_iload_n hx hb d_F_encode_66 rfl (lv_at hl 1 rfl) ?_
        obtain ⟨q465, hc, hf⟩ := z_b hf
        refine vp_callSi (z_cr (va_runS (As := [.int x1]) (rest := [.ref aC]) ⟨hx, hb, hml, hown, hts⟩ (c_F_sizeNumber l x1 q465 hc) (cw_F_125 hts ⟨Nat.le_of_ble_eq_true rfl, Nat.le_of_ble_eq_true rfl⟩) ⟨zb0, zp0⟩ rfl rfl hl.1 rfl (lv_room (Nat.le_of_ble_eq_true rfl)) d_F_encode_67 ⟨Nat.zero_le _, Nat.zero_le _⟩)) (fun r466 hv => ?_)
        have hv := hv.symm
        subst hv
        refine lv_iconst (v := 3) hx hb d_F_encode_70 (by decide) ?_
        obtain ⟨q467, hc, hf⟩ := z_b hf
        have hFc := z_free hD hS hA
        refine va_callv (va_runV (As := [.int q465, .int (3 : Int32)]) (rest := []) ⟨hx, hb, hml, hown, hts⟩ (c_B_append l dC dI cI cL _ q465 (3 : Int32) hN_C hN_CA (by decide) q467 hc) (cw_F_129 hts ⟨Nat.le_of_ble_eq_true rfl, Nat.le_of_ble_eq_true rfl⟩) ⟨zbM, va_recv hK hP (ci := 6) rfl hN_C, (zpM hP hK hZ hD)⟩ rfl rfl hl.1 rfl (lv_room (Nat.le_of_ble_eq_true rfl)) d_F_encode_71 ⟨Nat.zero_le _, Nat.zero_le _⟩) hS (fun q _ h => hFc q h) hFc (fun ws t H locs ht hvm hu hB hz1 hk1 hS => ?_)
        obtain ⟨hN_C, hN_CA, hfr⟩ := hu
        obtain ⟨hP, -, hD1⟩ := hB
        rw [ht] at hP
        have hD := hD1.weaken (fun _ _ _ h => hFc _ h)
        have hN_C : zA ws 17 (aC, .inr (6, [.ref aCA, .int q467.1, .int q463.2])) := hN_C
        have hN_CA : zA ws 18 (aCA, .inl (cI, CA_n, .inl q467.2)) := hN_CA
        have hN_O := (hfr _ (by decide)).trans hN_O
        have hN_P := (hfr _ (by decide)).trans hN_P
        have hN_PA := (hfr _ (by decide)).trans hN_PA
        have hN_H := (hfr _ (by decide)).trans hN_H
        have hN_HA := (hfr _ (by decide)).trans hN_HA
        have hN_V := (hfr _ (by decide)).trans hN_V
        have hN_S := (hfr _ (by decide)).trans hN_S
        have hN_W := (hfr _ (by decide)).trans hN_W
        have hN_D := (hfr _ (by decide)).trans hN_D
        have hN_Q := (hfr _ (by decide)).trans hN_Q
        have hN_R := (hfr _ (by decide)).trans hN_R
        have hN_E := (hfr _ (by decide)).trans hN_E
        have hN_K := (hfr _ (by decide)).trans hN_K
        have hN_KA := (hfr _ (by decide)).trans hN_KA
        have hw := z_frC (by decide) hw hfr
        refine lv_aload_n hx hb d_F_encode_74 rfl (lv_at hl 0 rfl) ?_
        refine lv_iconst (v := 0) hx hb d_F_encode_75 (by decide) ?_
        refine lv_iconst (v := 0) hx hb d_F_encode_76 (by decide) ?_
        refine lv_aload_n hx hb d_F_encode_77 rfl (lv_at hl 0 rfl) ?_
        refine gf_F_16 (v := .int O_side) hx hb hts hown hK hP hN_O rfl d_F_encode_78 ?_
        refine lv_iconst (v := 2) hx hb d_F_encode_81 (by decide) ?_
        refine lv_idiv hx hb d_F_encode_82 (by decide) ?_
        refine lv_iload_n hx hb d_F_encode_83 rfl (lv_at hl 1 rfl) ?_
        refine lv_iload_n hx hb d_F_encode_84 rfl (lv_at hl 2 rfl) ?_
        obtain ⟨q468, hc, hf⟩ := z_b hf
        have hFc := z_free hD hS hA
        refine va_callv (va_runV (As := [.int (0 : Int32), .int (0 : Int32), .int (O_side / (2 : Int32)), .int x1, .int x2]) (rest := []) ⟨hx, hb, hml, hown, hts⟩ (c_F_encodeQuarters l 6 dC dI cI cL _ (0 : Int32) (0 : Int32) (O_side / (2 : Int32)) x1 x2 hN_O hN_P hN_PA hN_H hN_HA hN_V hN_S hN_W hN_D hN_Q hN_R hN_E hN_K hN_KA hN_C hN_CA q468 hc) (cw_F_132 6 hts ⟨Nat.le_of_ble_eq_true rfl, Nat.le_of_ble_eq_true rfl⟩) ⟨zbM, va_recv hK hP (ci := 0) rfl hN_O, (zpM hP hK hZ hD)⟩ rfl rfl hl.1 rfl (lv_room (Nat.le_of_ble_eq_true rfl)) d_F_encode_85 ⟨Nat.zero_le _, Nat.zero_le _⟩) hS (fun q _ h => hFc q h) hFc (fun ws t H locs ht hvm hu hB hz1 hk1 hS => ?_)
        obtain ⟨hN_V, hN_S, hN_W, hN_D, hN_Q, hN_R, hN_E, hN_K, hN_KA, hN_C, hN_CA, hfr⟩ := hu
        obtain ⟨hP, -, hD1⟩ := hB
        rw [ht] at hP
        have hD := hD1.weaken (fun _ _ _ h => hFc _ h)
        have hN_V : zA ws 7 (aV, .inr (2, [.ref aH, .int q468.1, .int q468.2.1, .int q468.2.2.1, .int q468.2.2.2.1, .int q468.2.2.2.2.1])) := hN_V
        have hN_S : zA ws 8 (aS, .inr (3, [.ref aP, .ref aH, .ref aV, .ref aW, .ref aD, .ref aQ, .ref aR, .ref aE, .int q468.2.2.2.2.2.1, .int q468.2.2.2.2.2.2.1, .int q468.2.2.2.2.2.2.2.1, .int q468.2.2.2.2.2.2.2.2.1, .int q468.2.2.2.2.2.2.2.2.2.1, .int q468.2.2.2.2.2.2.2.2.2.2.1])) := hN_S
        have hN_W : zA ws 9 (aW, .inl (cI, W_n, .inl q468.2.2.2.2.2.2.2.2.2.2.2.1)) := hN_W
        have hN_D : zA ws 10 (aD, .inl (cI, D_n, .inl q468.2.2.2.2.2.2.2.2.2.2.2.2.1)) := hN_D
        have hN_Q : zA ws 11 (aQ, .inl (cI, Q_n, .inl q468.2.2.2.2.2.2.2.2.2.2.2.2.2.1)) := hN_Q
        have hN_R : zA ws 12 (aR, .inl (cI, R_n, .inl q468.2.2.2.2.2.2.2.2.2.2.2.2.2.2.1)) := hN_R
        have hN_E : zA ws 13 (aE, .inr (4, [.int q468.2.2.2.2.2.2.2.2.2.2.2.2.2.2.2.1, .int q468.2.2.2.2.2.2.2.2.2.2.2.2.2.2.2.2.1, .int q468.2.2.2.2.2.2.2.2.2.2.2.2.2.2.2.2.2.1, .int q468.2.2.2.2.2.2.2.2.2.2.2.2.2.2.2.2.2.2.1, .int q468.2.2.2.2.2.2.2.2.2.2.2.2.2.2.2.2.2.2.2.1])) := hN_E
        have hN_K : zA ws 14 (aK, .inr (5, [.ref aKA, .int q468.2.2.2.2.2.2.2.2.2.2.2.2.2.2.2.2.2.2.2.2.1])) := hN_K
        have hN_KA : zA ws 15 (aKA, .inl (cI, KA_n, .inl q468.2.2.2.2.2.2.2.2.2.2.2.2.2.2.2.2.2.2.2.2.2.1)) := hN_KA
        have hN_C : zA ws 17 (aC, .inr (6, [.ref aCA, .int q468.2.2.2.2.2.2.2.2.2.2.2.2.2.2.2.2.2.2.2.2.2.2.1, .int q463.2])) := hN_C
        have hN_CA : zA ws 18 (aCA, .inl (cI, CA_n, .inl q468.2.2.2.2.2.2.2.2.2.2.2.2.2.2.2.2.2.2.2.2.2.2.2)) := hN_CA
        have hN_O := (hfr _ (by decide)).trans hN_O
        have hN_P := (hfr _ (by decide)).trans hN_P
        have hN_PA := (hfr _ (by decide)).trans hN_PA
        have hN_H := (hfr _ (by decide)).trans hN_H
        have hN_HA := (hfr _ (by decide)).trans hN_HA
        have hw := z_frC (by decide) hw hfr
        refine lv_aload_n hx hb d_F_encode_88 rfl (lv_at hl 0 rfl) ?_
        refine gf_F_60 (v := .ref aK) hx hb hts hown hK hP hN_O rfl d_F_encode_89 ?_
        refine gf_F_136 (v := .int q468.2.2.2.2.2.2.2.2.2.2.2.2.2.2.2.2.2.2.2.2.1) hx hb hts hown hK hZ hP hN_K rfl d_F_encode_92 ?_
        obtain rfl := Option.some.inj hf
        exact z_iretT hx hb hr hlocks (fun t ht hW => ⟨Or.inl ⟨_, ws, rfl, ⟨_, rfl, (by dsimp only; exact ⟨rfl, hN_H, hN_HA, hN_V, hN_S, hN_W, hN_D, hN_Q, hN_R, hN_E, hN_K, hN_KA, hN_C, hN_CA, hw⟩)⟩, by rw [ht]; exact hP, va_K.moved hW.alike hK, hD⟩, hS.F ht⟩) hS.2.2 d_F_encode_95 (Nat.zero_le _) (Nat.zero_le _)
      · have hf := z_f hc hf
        obtain rfl := Option.some.inj hf
        exact z_throw (own := "FractalMaps") (cls := "java/lang/IllegalArgumentException") (tx := "the bound is below 0") (names := exNames) (k := 2) hfl hx hb hml hl.1 hlocks hown hout hts hX hP hK hD hA (by decide +kernel) (by decide +kernel) oa_96 k_476 k_477 k_50 (by decide +kernel) rfl rfl d_F_encode_31 d_F_encode_34 d_F_encode_35 d_F_encode_37 d_F_encode_40 (Nat.le_of_ble_eq_true rfl) (Nat.le_of_ble_eq_true rfl) (Nat.le_of_ble_eq_true rfl) (Nat.le_of_ble_eq_true rfl)
    · have hf := z_f hc hf
      obtain rfl := Option.some.inj hf
      exact z_throw (own := "FractalMaps") (cls := "java/lang/IllegalArgumentException") (tx := "no such least size") (names := exNames) (k := 2) hfl hx hb hml hl.1 hlocks hown hout hts hX hP hK hD hA (by decide +kernel) (by decide +kernel) oa_96 k_476 k_477 k_50 (by decide +kernel) rfl rfl d_F_encode_17 d_F_encode_20 d_F_encode_21 d_F_encode_23 d_F_encode_26 (Nat.le_of_ble_eq_true rfl) (Nat.le_of_ble_eq_true rfl) (Nat.le_of_ble_eq_true rfl) (Nat.le_of_ble_eq_true rfl)
def f_B_rewind : Option (Int32) := some (0 : Int32)
set_option maxHeartbeats 4000000 in
set_option maxRecDepth 100000 in
theorem c_B_rewind (l : Launch) (dC : Nat → ClassId) (dI : Nat → Nat → Nat) (cI cL : ClassId) {ws0 : va_W} (sz : Nat) {kB aB aBA : Nat} {B_filled B_taken : Int32} (hN_B : zA ws0 kB (aB, .inr (6, [.ref aBA, .int B_filled, .int B_taken]))) (r : Int32) (hf : f_B_rewind = some r) : Met l y_B_rewind w_B_rewind rm_B_rewind (va_Pc [.ref aB] (zM dC dI cI cL ws0 sz)) (va_Qv (fun ws' : va_W => zA ws' kB (aB, .inr (6, [.ref aBA, .int B_filled, .int r])) ∧ ∀ (j : Nat), j ∉ ([kB] : List Nat) → ws'[j]? = ws0[j]?) (zQ dC dI cI cL (va_A ws0 sz)) (va_A ws0 sz)) 0 0 (va_A ws0 sz) := by
  refine Met.ofW (cc := b_B_rewind) (maxL := 1) (ret := none) (by decide) rfl ?_
  intro p e s m args below meth c s₁ B hml hv
  obtain ⟨rfl, hsz, hP, hK, hZ, hD0⟩ := hv
  have hx := B.exec
  have hb := B.bytes
  have hr := B.returns
  have hlocks := B.notSynchronized
  have hts : ∀ w ∈ BIG, w.before ([.ref aB] : List Value).toArray s = true := fun w h => atoms_spec (ws := w_B_rewind) B.pre w (List.mem_cons_of_mem _ h)
  have hown : s.vm.findClass "FractalMaps$Bits" = some m.cls := findClass_of_methodNamed B.named
  subst hsz
  have hD := hD0.self (sz := s.heap.size)
  generalize hAe : va_A ws0 s.heap.size = A at hD ⊢
  have hA : ∀ q : Nat, s.heap.size ≤ q → A q := fun q h => by rw [← hAe]; exact Or.inr h
  have hS : va_S A s.heap s.heap [] := va_S.rf
  have hw : ∀ (j : Nat), j ∉ ([kB] : List Nat) → ws0[j]? = ws0[j]? := fun _ _ => rfl
  have hl := lv_entry ([.ref aB]) (n := 1) (Nat.le_of_ble_eq_true rfl)
  rw [lg_entry_eq]
  generalize (lg_sl ([.ref aB]) ++ List.replicate (1 - (lg_sl ([.ref aB])).length) Slot.unset).toArray = ls at hl ⊢
  have hl : lv_has ls 1 [(0, .ref aB)] := hl
  unfold f_B_rewind at hf
  refine lv_aload_n hx hb d_B_rewind_0 rfl (lv_at hl 0 rfl) ?_
  refine lv_iconst (v := 0) hx hb d_B_rewind_1 (by decide) ?_
  refine pf_B_28 (v := .int (0 : Int32)) hx hb hts hown hK hP hD hS hN_B rfl rfl (Nat.le_of_ble_eq_true rfl) d_B_rewind_2 (fun ws H locs hP hD hS hN_B hfr => ?_)
  have hN_B : zA ws kB (aB, .inr (6, [.ref aBA, .int B_filled, .int (0 : Int32)])) := hN_B
  have hw := z_fr List.mem_cons_self hw hfr
  obtain rfl := Option.some.inj hf
  exact W.vret hx hb hr (fun t ht hW => ⟨⟨ws, rfl, ⟨hN_B, hw⟩, by rw [ht]; exact hP, va_K.moved hW.alike hK, hD⟩, hS.F ht⟩) hS.2.2 d_B_rewind_5
def f_B_bitAt (x1 : Int32) (BA_n : Nat) (BA_f : Nat → Int32) : Option (Int32) := (f_B_byteOf (x1 / (8 : Int32)) BA_n BA_f).bind (fun q469 => some ((q469 >>> (((7 : Int32) - (x1 - x1 / (8 : Int32) * (8 : Int32))) &&& 31)) &&& (1 : Int32)))
set_option maxHeartbeats 4000000 in
set_option maxRecDepth 100000 in
theorem c_B_bitAt (l : Launch) (dC : Nat → ClassId) (dI : Nat → Nat → Nat) (cI cL : ClassId) {ws : va_W} {kB kBA aB aBA : Nat} {B_filled B_taken : Int32} {BA_n : Nat} {BA_f : Nat → Int32} (x1 : Int32) (hN_B : zA ws kB (aB, .inr (6, [.ref aBA, .int B_filled, .int B_taken]))) (hN_BA : zA ws kBA (aBA, .inl (cI, BA_n, .inl BA_f))) (r : Int32) (hf : f_B_bitAt x1 BA_n BA_f = some r) : Met l y_B_bitAt w_B_bitAt rm_B_bitAt (va_Pc [.ref aB, .int x1] (zR dC dI cI cL ws)) (vp_Si (fun v => v = r)) 0 0 (fun _ => False) := by
  refine Met.ofW (cc := b_B_bitAt) (maxL := 2) (ret := some .int) (by decide) rfl ?_
  intro p e s m args below meth c s₁ B hml hv
  obtain ⟨rfl, hP, hK, hZ⟩ := hv
  have hx := B.exec
  have hb := B.bytes
  have hr := B.returns
  have hlocks := B.notSynchronized
  have hts : ∀ w ∈ BIG, w.before ([.ref aB, .int x1] : List Value).toArray s = true := fun w h => atoms_spec (ws := w_B_bitAt) B.pre w (List.mem_cons_of_mem _ h)
  have hown : s.vm.findClass "FractalMaps$Bits" = some m.cls := findClass_of_methodNamed B.named
  have hl := lv_entry ([.ref aB, .int x1]) (n := 2) (Nat.le_of_ble_eq_true rfl)
  rw [lg_entry_eq]
  generalize (lg_sl ([.ref aB, .int x1]) ++ List.replicate (2 - (lg_sl ([.ref aB, .int x1])).length) Slot.unset).toArray = ls at hl ⊢
  have hl : lv_has ls 2 [(0, .ref aB), (1, .int x1)] := hl
  unfold f_B_bitAt at hf
  refine lv_aload_n hx hb d_B_bitAt_0 rfl (lv_at hl 0 rfl) ?_
  refine lv_iload_n hx hb d_B_bitAt_1 rfl (lv_at hl 1 rfl) ?_
  refine lv_bipush (v := 8) hx hb d_B_bitAt_2 (by decide) ?_
  refine lv_idiv hx hb d_B_bitAt_4 (by decide) ?_
  obtain ⟨q469, hc, hf⟩ := z_b hf
  refine vp_callSi (z_cr (va_runV (As := [.int (x1 / (8 : Int32))]) (rest := []) ⟨hx, hb, hml, hown, hts⟩ (c_B_byteOf l dC dI cI cL (x1 / (8 : Int32)) hN_B hN_BA q469 hc) (cw_B_39 hts ⟨Nat.le_of_ble_eq_true rfl, Nat.le_of_ble_eq_true rfl⟩) ⟨zbR, va_recv hK hP (ci := 6) rfl hN_B, (zpR hP hK hZ)⟩ rfl rfl hl.1 rfl (lv_room (Nat.le_of_ble_eq_true rfl)) d_B_bitAt_5 ⟨Nat.zero_le _, Nat.zero_le _⟩)) (fun r470 hv => ?_)
  have hv := hv.symm
  subst hv
  refine lv_bipush (v := 7) hx hb d_B_bitAt_8 (by decide) ?_
  refine lv_iload_n hx hb d_B_bitAt_10 rfl (lv_at hl 1 rfl) ?_
  refine lv_bipush (v := 8) hx hb d_B_bitAt_11 (by decide) ?_
  refine lv_irem hx hb d_B_bitAt_13 (by decide) ?_
  refine lv_isub hx hb d_B_bitAt_14 ?_
  refine lv_ishr hx hb d_B_bitAt_15 ?_
  refine lv_iconst (v := 1) hx hb d_B_bitAt_16 (by decide) ?_
  refine lv_iand hx hb d_B_bitAt_17 ?_
  obtain rfl := Option.some.inj hf
  exact W.iret hx hb hr (fun t ht hW => ⟨_, rfl, rfl, ht⟩) (fun q h => by cases h) d_B_bitAt_18
def f_B_take_19 (p1 : Int32) (B_taken : Int32) (BA_n : Nat) (BA_f : Nat → Int32) : Nat → Int32 → Int32 → Option (Int32 × Int32)
  | 0, _, _ => none
  | n + 1, v2, v3 => if p1 ≤ v3 then (some (v2, v3)) else ((f_B_bitAt (B_taken + v3) BA_n BA_f).bind (fun q471 => f_B_take_19 p1 B_taken BA_n BA_f n (((2 : Int32) * v2) + q471) (v3 + 1)))
def f_B_take (x1 : Int32) (B_filled : Int32) (B_taken : Int32) (BA_n : Nat) (BA_f : Nat → Int32) : Option (Int32 × Int32) := if x1 ≤ (B_filled - B_taken) then ((f_B_take_19 x1 B_taken BA_n BA_f FU (0 : Int32) (0 : Int32)).bind (fun q473 => some (q473.1, (B_taken + x1)))) else (some (((-1) : Int32), B_taken))
set_option maxHeartbeats 4000000 in
set_option maxRecDepth 100000 in
theorem c_B_take (l : Launch) (dC : Nat → ClassId) (dI : Nat → Nat → Nat) (cI cL : ClassId) {ws0 : va_W} (sz : Nat) {kB kBA aB aBA : Nat} {B_filled B_taken : Int32} {BA_n : Nat} {BA_f : Nat → Int32} (x1 : Int32) (hN_B : zA ws0 kB (aB, .inr (6, [.ref aBA, .int B_filled, .int B_taken]))) (hN_BA : zA ws0 kBA (aBA, .inl (cI, BA_n, .inl BA_f))) (ne_B_BA : kB ≠ kBA) (r : Int32 × Int32) (hf : f_B_take x1 B_filled B_taken BA_n BA_f = some r) : Met l y_B_take w_B_take rm_B_take (va_Pc [.ref aB, .int x1] (zM dC dI cI cL ws0 sz)) (va_Qi (fun (v : Int32) (ws' : va_W) => v = r.1 ∧ zA ws' kB (aB, .inr (6, [.ref aBA, .int B_filled, .int r.2])) ∧ ∀ (j : Nat), j ∉ ([kB] : List Nat) → ws'[j]? = ws0[j]?) (zQ dC dI cI cL (va_A ws0 sz)) (va_A ws0 sz)) 0 0 (va_A ws0 sz) := by
  refine Met.ofW (cc := b_B_take) (maxL := 4) (ret := some .int) (by decide) rfl ?_
  intro p e s m args below meth c s₁ B hml hv
  obtain ⟨rfl, hsz, hP, hK, hZ, hD0⟩ := hv
  have hx := B.exec
  have hb := B.bytes
  have hr := B.returns
  have hlocks := B.notSynchronized
  have hts : ∀ w ∈ BIG, w.before ([.ref aB, .int x1] : List Value).toArray s = true := fun w h => atoms_spec (ws := w_B_take) B.pre w (List.mem_cons_of_mem _ h)
  have hown : s.vm.findClass "FractalMaps$Bits" = some m.cls := findClass_of_methodNamed B.named
  subst hsz
  have hD := hD0.self (sz := s.heap.size)
  generalize hAe : va_A ws0 s.heap.size = A at hD ⊢
  have hA : ∀ q : Nat, s.heap.size ≤ q → A q := fun q h => by rw [← hAe]; exact Or.inr h
  have hS : va_S A s.heap s.heap [] := va_S.rf
  have hw : ∀ (j : Nat), j ∉ ([kB] : List Nat) → ws0[j]? = ws0[j]? := fun _ _ => rfl
  have hl := lv_entry ([.ref aB, .int x1]) (n := 4) (Nat.le_of_ble_eq_true rfl)
  rw [lg_entry_eq]
  generalize (lg_sl ([.ref aB, .int x1]) ++ List.replicate (4 - (lg_sl ([.ref aB, .int x1])).length) Slot.unset).toArray = ls at hl ⊢
  have hl : lv_has ls 4 [(0, .ref aB), (1, .int x1)] := hl
  unfold f_B_take at hf
  refine lv_aload_n hx hb d_B_take_0 rfl (lv_at hl 0 rfl) ?_
  refine gf_B_24 (v := .int B_filled) hx hb hts hown hK hP hN_B rfl d_B_take_1 ?_
  refine lv_aload_n hx hb d_B_take_4 rfl (lv_at hl 0 rfl) ?_
  refine gf_B_28 (v := .int B_taken) hx hb hts hown hK hP hN_B rfl d_B_take_5 ?_
  refine lv_isub hx hb d_B_take_8 ?_
  refine lv_iload_n hx hb d_B_take_9 rfl (lv_at hl 1 rfl) ?_
  refine lv_icmp_ge (tgt := 15) hx hb d_B_take_10 (by decide) (fun hc => ?_) (fun hc => ?_)
  · have hf := z_t hc hf
    refine lv_iconst (v := 0) hx hb d_B_take_15 (by decide) ?_
    refine lv_istore_n (lv' := [(2, .int (0 : Int32)), (0, .ref aB), (1, .int x1)]) hx hb d_B_take_16 rfl hl (by decide) rfl (fun ls hl => ?_)
    refine lv_iconst (v := 0) hx hb d_B_take_17 (by decide) ?_
    refine lv_istore_n (lv' := [(3, .int (0 : Int32)), (2, .int (0 : Int32)), (0, .ref aB), (1, .int x1)]) hx hb d_B_take_18 rfl hl (by decide) rfl (fun ls hl => ?_)
    have lp476 : ∀ (Qx : State → Prop) (n : Nat) (v2_474 : Int32) (v3_475 : Int32) (ls : Array Slot) (q : Int32 × Int32) (hf : f_B_take_19 x1 B_taken BA_n BA_f n v2_474 v3_475 = some q) (hl : lv_has ls 4 [(0, .ref aB), (1, .int x1), (2, .int v2_474), (3, .int v3_475)]) (kt0 : ∀ (ls : Array Slot), lv_has ls 4 [(0, .ref aB), (1, .int x1), (2, .int q.1), (3, .int q.2)] → W p l e (headSpec w_B_take rm_B_take).room s m ([.ref aB, .int x1] : List Value).toArray below meth c s.heap [] 0 0 Qx (F0 m 45 ls [])), W p l e (headSpec w_B_take rm_B_take).room s m ([.ref aB, .int x1] : List Value).toArray below meth c s.heap [] 0 0 Qx (F0 m 19 ls []) := by
      intro Qx n
      induction n with
      | zero => intro v2_474 v3_475 ls q hf; cases hf
      | succ n ih =>
        intro v2_474 v3_475 ls q hf hl kt0
        rw [f_B_take_19] at hf
        refine lv_iload_n hx hb d_B_take_19 rfl (lv_at hl 3 rfl) ?_
        refine lv_iload_n hx hb d_B_take_20 rfl (lv_at hl 1 rfl) ?_
        refine lv_icmp_ge (tgt := 45) hx hb d_B_take_21 (by decide) (fun hc => ?_) (fun hc => ?_)
        · have hf := z_t hc hf
          obtain rfl := Option.some.inj hf
          exact kt0 ls (lv_sub hl [0, 1, 2, 3] rfl)
        · have hf := z_f hc hf
          refine lv_iconst (v := 2) hx hb d_B_take_24 (by decide) ?_
          refine lv_iload_n hx hb d_B_take_25 rfl (lv_at hl 2 rfl) ?_
          refine lv_imul hx hb d_B_take_26 ?_
          refine lv_aload_n hx hb d_B_take_27 rfl (lv_at hl 0 rfl) ?_
          refine lv_aload_n hx hb d_B_take_28 rfl (lv_at hl 0 rfl) ?_
          refine gf_B_28 (v := .int B_taken) hx hb hts hown hK hP hN_B rfl d_B_take_29 ?_
          refine lv_iload_n hx hb d_B_take_32 rfl (lv_at hl 3 rfl) ?_
          refine lv_iadd hx hb d_B_take_33 ?_
          obtain ⟨q477, hc, hf⟩ := z_b hf
          refine vp_callSi (z_cr (va_runV (As := [.int (B_taken + v3_475)]) (rest := [.int ((2 : Int32) * v2_474)]) ⟨hx, hb, hml, hown, hts⟩ (c_B_bitAt l dC dI cI cL (B_taken + v3_475) hN_B hN_BA q477 hc) (cw_B_35 hts ⟨Nat.le_of_ble_eq_true rfl, Nat.le_of_ble_eq_true rfl⟩) ⟨zbR, va_recv hK hP (ci := 6) rfl hN_B, (zpR hP hK hZ)⟩ rfl rfl hl.1 rfl (lv_room (Nat.le_of_ble_eq_true rfl)) d_B_take_34 ⟨Nat.zero_le _, Nat.zero_le _⟩)) (fun r478 hv => ?_)
          have hv := hv.symm
          subst hv
          refine lv_iadd hx hb d_B_take_37 ?_
          refine lv_istore_n (lv' := [(2, .int (((2 : Int32) * v2_474) + q477)), (0, .ref aB), (1, .int x1), (3, .int v3_475)]) hx hb d_B_take_38 rfl hl (by decide) rfl (fun ls hl => ?_)
          refine lv_iinc (v := (v3_475 + 1)) (lv' := [(3, .int (v3_475 + 1)), (2, .int (((2 : Int32) * v2_474) + q477)), (0, .ref aB), (1, .int x1)]) hx hb d_B_take_39 hl (k := 3) rfl rfl (by decide) rfl (fun ls hl => ?_)
          refine lv_goto (tgt := 19) hx hb d_B_take_42 (by decide) ?_
          exact ih (((2 : Int32) * v2_474) + q477) (v3_475 + 1) ls _ hf (lv_sub hl [2, 3, 1, 0] rfl) kt0
    obtain ⟨q473, hc, hf⟩ := z_b hf
    refine lp476 _ FU (0 : Int32) (0 : Int32) ls q473 hc (lv_sub hl [2, 3, 1, 0] rfl) (fun ls hl => ?_)
    refine lv_aload_n hx hb d_B_take_45 rfl (lv_at hl 0 rfl) ?_
    refine lv_dup hx hb d_B_take_46 rfl ?_
    refine gf_B_28 (v := .int B_taken) hx hb hts hown hK hP hN_B rfl d_B_take_47 ?_
    refine lv_iload_n hx hb d_B_take_50 rfl (lv_at hl 1 rfl) ?_
    refine lv_iadd hx hb d_B_take_51 ?_
    refine pf_B_28 (v := .int (B_taken + x1)) hx hb hts hown hK hP hD hS hN_B rfl rfl (Nat.le_of_ble_eq_true rfl) d_B_take_52 (fun ws H locs hP hD hS hN_B hfr => ?_)
    have hN_B : zA ws kB (aB, .inr (6, [.ref aBA, .int B_filled, .int (B_taken + x1)])) := hN_B
    have hN_BA := (hfr _ ne_B_BA.symm).trans hN_BA
    have hw := z_fr List.mem_cons_self hw hfr
    refine lv_iload_n hx hb d_B_take_55 rfl (lv_at hl 2 rfl) ?_
    obtain rfl := Option.some.inj hf
    exact W.iret hx hb hr (fun t ht hW => ⟨⟨_, ws, rfl, ⟨rfl, hN_B, hw⟩, by rw [ht]; exact hP, va_K.moved hW.alike hK, hD⟩, hS.F ht⟩) hS.2.2 d_B_take_56
  · have hf := z_f hc hf
    refine lv_iconst (v := (-1)) hx hb d_B_take_13 (by decide) ?_
    obtain rfl := Option.some.inj hf
    exact W.iret hx hb hr (fun t ht hW => ⟨⟨_, ws0, rfl, ⟨rfl, hN_B, hw⟩, by rw [ht]; exact hP, va_K.moved hW.alike hK, hD⟩, hS.F ht⟩) hS.2.2 d_B_take_14
def f_F_readFit (x1 : Int32) (O_side : Int32) (T_domain : Int32) (T_turn : Int32) (T_contrast : Int32) (T_offset : Int32) (T_error : Int32) (I_filled : Int32) (I_taken : Int32) (IA_n : Nat) (IA_f : Nat → Int32) : Option (Int32 × Int32 × Int32 × Int32 × Int32 × Int32 × Int32) := (f_F_domainBits x1 O_side).bind (fun q479 => (f_B_take q479 I_filled I_taken IA_n IA_f).bind (fun q481 => if q481.1 = ((-1) : Int32) then (some ((3 : Int32), T_domain, T_turn, T_contrast, T_offset, T_error, q481.2)) else ((f_F_domainsOf O_side x1).bind (fun q482 => if q481.1 < q482 then ((f_B_take (3 : Int32) I_filled q481.2 IA_n IA_f).bind (fun q484 => if q484.1 = ((-1) : Int32) then (some ((3 : Int32), T_domain, T_turn, T_contrast, T_offset, T_error, q484.2)) else ((f_B_take (4 : Int32) I_filled q484.2 IA_n IA_f).bind (fun q485 => if q485.1 = ((-1) : Int32) then (some ((3 : Int32), T_domain, T_turn, T_contrast, T_offset, T_error, q485.2)) else (if (q485.1 - (7 : Int32)) ≤ (7 : Int32) then ((f_B_take (10 : Int32) I_filled q485.2 IA_n IA_f).bind (fun q486 => if q486.1 = ((-1) : Int32) then (some ((3 : Int32), T_domain, T_turn, T_contrast, T_offset, T_error, q486.2)) else ((f_T_become q481.1 q484.1 (q485.1 - (7 : Int32)) (q486.1 - (256 : Int32)) ((-1) : Int32)).bind (fun q487 => some (((-1) : Int32), q487.1, q487.2.1, q487.2.2.1, q487.2.2.2.1, q487.2.2.2.2, q486.2))))) else (some ((2 : Int32), T_domain, T_turn, T_contrast, T_offset, T_error, q485.2))))))) else (some ((1 : Int32), T_domain, T_turn, T_contrast, T_offset, T_error, q481.2))))))
set_option maxHeartbeats 4000000 in
set_option maxRecDepth 100000 in
theorem c_F_readFit (l : Launch) (dC : Nat → ClassId) (dI : Nat → Nat → Nat) (cI cL : ClassId) {ws0 : va_W} (sz : Nat) {aO aP aN aH aV aS aK aT aC aI aIA : Nat} {O_side T_domain T_turn T_contrast T_offset T_error I_filled I_taken : Int32} {IA_n : Nat} {IA_f : Nat → Int32} (x1 : Int32) (hN_O : zA ws0 0 (aO, .inr (0, [.int O_side, .ref aP, .ref aN, .ref aH, .ref aV, .ref aS, .ref aK, .ref aT, .ref aC, .ref aI]))) (hN_T : zA ws0 16 (aT, .inr (4, [.int T_domain, .int T_turn, .int T_contrast, .int T_offset, .int T_error]))) (hN_I : zA ws0 19 (aI, .inr (6, [.ref aIA, .int I_filled, .int I_taken]))) (hN_IA : zA ws0 20 (aIA, .inl (cI, IA_n, .inl IA_f))) (r : Int32 × Int32 × Int32 × Int32 × Int32 × Int32 × Int32) (hf : f_F_readFit x1 O_side T_domain T_turn T_contrast T_offset T_error I_filled I_taken IA_n IA_f = some r) : Met l y_F_readFit w_F_readFit rm_F_readFit (va_Pc [.ref aO, .int x1] (zM dC dI cI cL ws0 sz)) (va_Qi (fun (v : Int32) (ws' : va_W) => v = r.1 ∧ zA ws' 16 (aT, .inr (4, [.int r.2.1, .int r.2.2.1, .int r.2.2.2.1, .int r.2.2.2.2.1, .int r.2.2.2.2.2.1])) ∧ zA ws' 19 (aI, .inr (6, [.ref aIA, .int I_filled, .int r.2.2.2.2.2.2])) ∧ ∀ (j : Nat), j ∉ ([16, 19] : List Nat) → ws'[j]? = ws0[j]?) (zQ dC dI cI cL (va_A ws0 sz)) (va_A ws0 sz)) 0 0 (va_A ws0 sz) := by
  refine Met.ofW (cc := b_F_readFit) (maxL := 6) (ret := some .int) (by decide) rfl ?_
  intro p e s m args below meth c s₁ B hml hv
  obtain ⟨rfl, hsz, hP, hK, hZ, hD0⟩ := hv
  have hx := B.exec
  have hb := B.bytes
  have hr := B.returns
  have hlocks := B.notSynchronized
  have hts : ∀ w ∈ BIG, w.before ([.ref aO, .int x1] : List Value).toArray s = true := fun w h => atoms_spec (ws := w_F_readFit) B.pre w (List.mem_cons_of_mem _ h)
  have hown : s.vm.findClass "FractalMaps" = some m.cls := findClass_of_methodNamed B.named
  subst hsz
  have hD := hD0.self (sz := s.heap.size)
  generalize hAe : va_A ws0 s.heap.size = A at hD ⊢
  have hA : ∀ q : Nat, s.heap.size ≤ q → A q := fun q h => by rw [← hAe]; exact Or.inr h
  have hS : va_S A s.heap s.heap [] := va_S.rf
  have hw : ∀ (j : Nat), j ∉ ([16, 19] : List Nat) → ws0[j]? = ws0[j]? := fun _ _ => rfl
  have hl := lv_entry ([.ref aO, .int x1]) (n := 6) (Nat.le_of_ble_eq_true rfl)
  rw [lg_entry_eq]
  generalize (lg_sl ([.ref aO, .int x1]) ++ List.replicate (6 - (lg_sl ([.ref aO, .int x1])).length) Slot.unset).toArray = ls at hl ⊢
  have hl : lv_has ls 6 [(0, .ref aO), (1, .int x1)] := hl
  unfold f_F_readFit at hf
  refine lv_aload_n hx hb d_F_readFit_0 rfl (lv_at hl 0 rfl) ?_
  refine gf_F_78 (v := .ref aI) hx hb hts hown hK hP hN_O rfl d_F_readFit_1 ?_
  refine lv_aload_n hx hb d_F_readFit_4 rfl (lv_at hl 0 rfl) ?_
  refine lv_iload_n hx hb d_F_readFit_5 rfl (lv_at hl 1 rfl) ?_
  obtain ⟨q479, hc, hf⟩ := z_b hf
  refine vp_callSi (z_cr (va_runV (As := [.int x1]) (rest := [.ref aI]) ⟨hx, hb, hml, hown, hts⟩ (c_F_domainBits l dC dI cI cL x1 hN_O q479 hc) (cw_F_244 hts ⟨Nat.le_of_ble_eq_true rfl, Nat.le_of_ble_eq_true rfl⟩) ⟨zbR, va_recv hK hP (ci := 0) rfl hN_O, (zpR hP hK hZ)⟩ rfl rfl hl.1 rfl (lv_room (Nat.le_of_ble_eq_true rfl)) d_F_readFit_6 ⟨Nat.zero_le _, Nat.zero_le _⟩)) (fun r480 hv => ?_)
  have hv := hv.symm
  subst hv
  obtain ⟨q481, hc, hf⟩ := z_b hf
  have hFc := z_free hD hS hA
  refine va_calli (va_runV (As := [.int q479]) (rest := []) ⟨hx, hb, hml, hown, hts⟩ (c_B_take l dC dI cI cL _ q479 hN_I hN_IA (by decide) q481 hc) (cw_F_259 hts ⟨Nat.le_of_ble_eq_true rfl, Nat.le_of_ble_eq_true rfl⟩) ⟨zbM, va_recv hK hP (ci := 6) rfl hN_I, (zpM hP hK hZ hD)⟩ rfl rfl hl.1 rfl (lv_room (Nat.le_of_ble_eq_true rfl)) d_F_readFit_9 ⟨Nat.zero_le _, Nat.zero_le _⟩) hS (fun q _ h => hFc q h) hFc (fun rv ws t H locs ht hvm hu hB hz1 hk1 hS => ?_)
  obtain ⟨hv, hN_I, hfr⟩ := hu
  subst hv
  obtain ⟨hP, -, hD1⟩ := hB
  rw [ht] at hP
  have hD := hD1.weaken (fun _ _ _ h => hFc _ h)
  have hN_I : zA ws 19 (aI, .inr (6, [.ref aIA, .int I_filled, .int q481.2])) := hN_I
  have hN_O := (hfr _ (by decide)).trans hN_O
  have hN_T := (hfr _ (by decide)).trans hN_T
  have hN_IA := (hfr _ (by decide)).trans hN_IA
  have hw := z_frC (by decide) hw hfr
  refine lv_istore_n (lv' := [(2, .int q481.1), (0, .ref aO), (1, .int x1)]) hx hb d_F_readFit_12 rfl hl (by decide) rfl (fun ls hl => ?_)
  refine lv_iload_n hx hb d_F_readFit_13 rfl (lv_at hl 0 rfl) ?_
  refine lv_iconst (v := (-1)) hx hb d_F_readFit_14 (by decide) ?_
  refine lv_icmp_ne (tgt := 20) hx hb d_F_readFit_15 (by decide) (fun hc => ?_) (fun hc => ?_)
  · have hf := z_f hc hf
    refine lv_iload_n hx hb d_F_readFit_20 rfl (lv_at hl 0 rfl) ?_
    refine lv_aload_n hx hb d_F_readFit_21 rfl (lv_at hl 1 rfl) ?_
    refine gf_F_16 (v := .int O_side) hx hb hts hown hK hP hN_O rfl d_F_readFit_22 ?_
    refine lv_iload_n hx hb d_F_readFit_25 rfl (lv_at hl 2 rfl) ?_
    obtain ⟨q482, hc, hf⟩ := z_b hf
    refine vp_callSi (z_cr (va_runS (As := [.int O_side, .int x1]) (rest := [.int q481.1]) ⟨hx, hb, hml, hown, hts⟩ (c_F_domainsOf l O_side x1 q482 hc) (cw_F_192 hts ⟨Nat.le_of_ble_eq_true rfl, Nat.le_of_ble_eq_true rfl⟩) ⟨zb0, zp0⟩ rfl rfl hl.1 rfl (lv_room (Nat.le_of_ble_eq_true rfl)) d_F_readFit_26 ⟨Nat.zero_le _, Nat.zero_le _⟩)) (fun r483 hv => ?_)
    have hv := hv.symm
    subst hv
    refine lv_icmp_lt (tgt := 34) hx hb d_F_readFit_29 (by decide) (fun hc => ?_) (fun hc => ?_)
    · have hf := z_t hc hf
      refine lv_aload_n hx hb d_F_readFit_34 rfl (lv_at hl 1 rfl) ?_
      refine gf_F_78 (v := .ref aI) hx hb hts hown hK hP hN_O rfl d_F_readFit_35 ?_
      refine lv_iconst (v := 3) hx hb d_F_readFit_38 (by decide) ?_
      obtain ⟨q484, hc, hf⟩ := z_b hf
      have hFc := z_free hD hS hA
      refine va_calli (va_runV (As := [.int (3 : Int32)]) (rest := []) ⟨hx, hb, hml, hown, hts⟩ (c_B_take l dC dI cI cL _ (3 : Int32) hN_I hN_IA (by decide) q484 hc) (cw_F_259 hts ⟨Nat.le_of_ble_eq_true rfl, Nat.le_of_ble_eq_true rfl⟩) ⟨zbM, va_recv hK hP (ci := 6) rfl hN_I, (zpM hP hK hZ hD)⟩ rfl rfl hl.1 rfl (lv_room (Nat.le_of_ble_eq_true rfl)) d_F_readFit_39 ⟨Nat.zero_le _, Nat.zero_le _⟩) hS (fun q _ h => hFc q h) hFc (fun rv ws t H locs ht hvm hu hB hz1 hk1 hS => ?_)
      obtain ⟨hv, hN_I, hfr⟩ := hu
      subst hv
      obtain ⟨hP, -, hD1⟩ := hB
      rw [ht] at hP
      have hD := hD1.weaken (fun _ _ _ h => hFc _ h)
      have hN_I : zA ws 19 (aI, .inr (6, [.ref aIA, .int I_filled, .int q484.2])) := hN_I
      have hN_O := (hfr _ (by decide)).trans hN_O
      have hN_T := (hfr _ (by decide)).trans hN_T
      have hN_IA := (hfr _ (by decide)).trans hN_IA
      have hw := z_frC (by decide) hw hfr
      refine lv_istore_n (lv' := [(3, .int q484.1), (2, .int q481.1), (0, .ref aO), (1, .int x1)]) hx hb d_F_readFit_42 rfl hl (by decide) rfl (fun ls hl => ?_)
      refine lv_iload_n hx hb d_F_readFit_43 rfl (lv_at hl 0 rfl) ?_
      refine lv_iconst (v := (-1)) hx hb d_F_readFit_44 (by decide) ?_
      refine lv_icmp_ne (tgt := 50) hx hb d_F_readFit_45 (by decide) (fun hc => ?_) (fun hc => ?_)
      · have hf := z_f hc hf
        refine lv_aload_n hx hb d_F_readFit_50 rfl (lv_at hl 2 rfl) ?_
        refine gf_F_78 (v := .ref aI) hx hb hts hown hK hP hN_O rfl d_F_readFit_51 ?_
        refine lv_iconst (v := 4) hx hb d_F_readFit_54 (by decide) ?_
        obtain ⟨q485, hc, hf⟩ := z_b hf
        have hFc := z_free hD hS hA
        refine va_calli (va_runV (As := [.int (4 : Int32)]) (rest := []) ⟨hx, hb, hml, hown, hts⟩ (c_B_take l dC dI cI cL _ (4 : Int32) hN_I hN_IA (by decide) q485 hc) (cw_F_259 hts ⟨Nat.le_of_ble_eq_true rfl, Nat.le_of_ble_eq_true rfl⟩) ⟨zbM, va_recv hK hP (ci := 6) rfl hN_I, (zpM hP hK hZ hD)⟩ rfl rfl hl.1 rfl (lv_room (Nat.le_of_ble_eq_true rfl)) d_F_readFit_55 ⟨Nat.zero_le _, Nat.zero_le _⟩) hS (fun q _ h => hFc q h) hFc (fun rv ws t H locs ht hvm hu hB hz1 hk1 hS => ?_)
        obtain ⟨hv, hN_I, hfr⟩ := hu
        subst hv
        obtain ⟨hP, -, hD1⟩ := hB
        rw [ht] at hP
        have hD := hD1.weaken (fun _ _ _ h => hFc _ h)
        have hN_I : zA ws 19 (aI, .inr (6, [.ref aIA, .int I_filled, .int q485.2])) := hN_I
        have hN_O := (hfr _ (by decide)).trans hN_O
        have hN_T := (hfr _ (by decide)).trans hN_T
        have hN_IA := (hfr _ (by decide)).trans hN_IA
        have hw := z_frC (by decide) hw hfr
        refine lv_istore (lv' := [(4, .int q485.1), (3, .int q484.1), (2, .int q481.1), (0, .ref aO), (1, .int x1)]) hx hb d_F_readFit_58 hl (by decide) rfl (fun ls hl => ?_)
        refine lv_iload hx hb d_F_readFit_60 (lv_at hl 0 rfl) ?_
        refine lv_iconst (v := (-1)) hx hb d_F_readFit_62 (by decide) ?_
        refine lv_icmp_ne (tgt := 68) hx hb d_F_readFit_63 (by decide) (fun hc => ?_) (fun hc => ?_)
        · have hf := z_f hc hf
          refine lv_iload hx hb d_F_readFit_68 (lv_at hl 0 rfl) ?_
          refine lv_bipush (v := 7) hx hb d_F_readFit_70 (by decide) ?_
          refine lv_isub hx hb d_F_readFit_72 ?_
          refine lv_bipush (v := 7) hx hb d_F_readFit_73 (by decide) ?_
          refine lv_icmp_le (tgt := 80) hx hb d_F_readFit_75 (by decide) (fun hc => ?_) (fun hc => ?_)
          · have hf := z_t hc hf
            refine lv_aload_n hx hb d_F_readFit_80 rfl (lv_at hl 3 rfl) ?_
            refine gf_F_78 (v := .ref aI) hx hb hts hown hK hP hN_O rfl d_F_readFit_81 ?_
            refine lv_bipush (v := 10) hx hb d_F_readFit_84 (by decide) ?_
            obtain ⟨q486, hc, hf⟩ := z_b hf
            have hFc := z_free hD hS hA
            refine va_calli (va_runV (As := [.int (10 : Int32)]) (rest := []) ⟨hx, hb, hml, hown, hts⟩ (c_B_take l dC dI cI cL _ (10 : Int32) hN_I hN_IA (by decide) q486 hc) (cw_F_259 hts ⟨Nat.le_of_ble_eq_true rfl, Nat.le_of_ble_eq_true rfl⟩) ⟨zbM, va_recv hK hP (ci := 6) rfl hN_I, (zpM hP hK hZ hD)⟩ rfl rfl hl.1 rfl (lv_room (Nat.le_of_ble_eq_true rfl)) d_F_readFit_86 ⟨Nat.zero_le _, Nat.zero_le _⟩) hS (fun q _ h => hFc q h) hFc (fun rv ws t H locs ht hvm hu hB hz1 hk1 hS => ?_)
            obtain ⟨hv, hN_I, hfr⟩ := hu
            subst hv
            obtain ⟨hP, -, hD1⟩ := hB
            rw [ht] at hP
            have hD := hD1.weaken (fun _ _ _ h => hFc _ h)
            have hN_I : zA ws 19 (aI, .inr (6, [.ref aIA, .int I_filled, .int q486.2])) := hN_I
            have hN_O := (hfr _ (by decide)).trans hN_O
            have hN_T := (hfr _ (by decide)).trans hN_T
            have hN_IA := (hfr _ (by decide)).trans hN_IA
            have hw := z_frC (by decide) hw hfr
            refine lv_istore (lv' := [(5, .int q486.1), (4, .int q485.1), (3, .int q484.1), (2, .int q481.1), (0, .ref aO), (1, .int x1)]) hx hb d_F_readFit_89 hl (by decide) rfl (fun ls hl => ?_)
            refine lv_iload hx hb d_F_readFit_91 (lv_at hl 0 rfl) ?_
            refine lv_iconst (v := (-1)) hx hb d_F_readFit_93 (by decide) ?_
            refine lv_icmp_ne (tgt := 99) hx hb d_F_readFit_94 (by decide) (fun hc => ?_) (fun hc => ?_)
            · have hf := z_f hc hf
              refine lv_aload_n hx hb d_F_readFit_99 rfl (lv_at hl 4 rfl) ?_
              refine gf_F_67 (v := .ref aT) hx hb hts hown hK hP hN_O rfl d_F_readFit_100 ?_
              refine lv_iload_n hx hb d_F_readFit_103 rfl (lv_at hl 3 rfl) ?_
              refine lv_iload_n hx hb d_F_readFit_104 rfl (lv_at hl 2 rfl) ?_
              refine lv_iload hx hb d_F_readFit_105 (lv_at hl 1 rfl) ?_
              refine lv_bipush (v := 7) hx hb d_F_readFit_107 (by decide) ?_
              refine lv_isub hx hb d_F_readFit_109 ?_
              refine lv_iload hx hb d_F_readFit_110 (lv_at hl 0 rfl) ?_
              refine lv_sipush (v := 256) hx hb d_F_readFit_112 (by decide) ?_
              refine lv_isub hx hb d_F_readFit_115 ?_
              refine lv_iconst (v := (-1)) hx hb d_F_readFit_116 (by decide) ?_
              obtain ⟨q487, hc, hf⟩ := z_b hf
              have hFc := z_free hD hS hA
              refine va_callv (va_runV (As := [.int q481.1, .int q484.1, .int (q485.1 - (7 : Int32)), .int (q486.1 - (256 : Int32)), .int ((-1) : Int32)]) (rest := []) ⟨hx, hb, hml, hown, hts⟩ (c_T_become l dC dI cI cL _ q481.1 q484.1 (q485.1 - (7 : Int32)) (q486.1 - (256 : Int32)) ((-1) : Int32) hN_T q487 hc) (cw_F_276 hts ⟨Nat.le_of_ble_eq_true rfl, Nat.le_of_ble_eq_true rfl⟩) ⟨zbM, va_recv hK hP (ci := 4) rfl hN_T, (zpM hP hK hZ hD)⟩ rfl rfl hl.1 rfl (lv_room (Nat.le_of_ble_eq_true rfl)) d_F_readFit_117 ⟨Nat.zero_le _, Nat.zero_le _⟩) hS (fun q _ h => hFc q h) hFc (fun ws t H locs ht hvm hu hB hz1 hk1 hS => ?_)
              obtain ⟨hN_T, hfr⟩ := hu
              obtain ⟨hP, -, hD1⟩ := hB
              rw [ht] at hP
              have hD := hD1.weaken (fun _ _ _ h => hFc _ h)
              have hN_T : zA ws 16 (aT, .inr (4, [.int q487.1, .int q487.2.1, .int q487.2.2.1, .int q487.2.2.2.1, .int q487.2.2.2.2])) := hN_T
              have hN_O := (hfr _ (by decide)).trans hN_O
              have hN_I := (hfr _ (by decide)).trans hN_I
              have hN_IA := (hfr _ (by decide)).trans hN_IA
              have hw := z_frC (by decide) hw hfr
              refine lv_iconst (v := (-1)) hx hb d_F_readFit_120 (by decide) ?_
              obtain rfl := Option.some.inj hf
              exact W.iret hx hb hr (fun t ht hW => ⟨⟨_, ws, rfl, (by dsimp only; exact ⟨rfl, hN_T, hN_I, hw⟩), by rw [ht]; exact hP, va_K.moved hW.alike hK, hD⟩, hS.F ht⟩) hS.2.2 d_F_readFit_121
            · have hf := z_t hc hf
              refine lv_iconst (v := 3) hx hb d_F_readFit_97 (by decide) ?_
              obtain rfl := Option.some.inj hf
              exact W.iret hx hb hr (fun t ht hW => ⟨⟨_, ws, rfl, (by dsimp only; exact ⟨rfl, hN_T, hN_I, hw⟩), by rw [ht]; exact hP, va_K.moved hW.alike hK, hD⟩, hS.F ht⟩) hS.2.2 d_F_readFit_98
          · have hf := z_f hc hf
            refine lv_iconst (v := 2) hx hb d_F_readFit_78 (by decide) ?_
            obtain rfl := Option.some.inj hf
            exact W.iret hx hb hr (fun t ht hW => ⟨⟨_, ws, rfl, (by dsimp only; exact ⟨rfl, hN_T, hN_I, hw⟩), by rw [ht]; exact hP, va_K.moved hW.alike hK, hD⟩, hS.F ht⟩) hS.2.2 d_F_readFit_79
        · have hf := z_t hc hf
          refine lv_iconst (v := 3) hx hb d_F_readFit_66 (by decide) ?_
          obtain rfl := Option.some.inj hf
          exact W.iret hx hb hr (fun t ht hW => ⟨⟨_, ws, rfl, (by dsimp only; exact ⟨rfl, hN_T, hN_I, hw⟩), by rw [ht]; exact hP, va_K.moved hW.alike hK, hD⟩, hS.F ht⟩) hS.2.2 d_F_readFit_67
      · have hf := z_t hc hf
        refine lv_iconst (v := 3) hx hb d_F_readFit_48 (by decide) ?_
        obtain rfl := Option.some.inj hf
        exact W.iret hx hb hr (fun t ht hW => ⟨⟨_, ws, rfl, (by dsimp only; exact ⟨rfl, hN_T, hN_I, hw⟩), by rw [ht]; exact hP, va_K.moved hW.alike hK, hD⟩, hS.F ht⟩) hS.2.2 d_F_readFit_49
    · have hf := z_f hc hf
      refine lv_iconst (v := 1) hx hb d_F_readFit_32 (by decide) ?_
      obtain rfl := Option.some.inj hf
      exact W.iret hx hb hr (fun t ht hW => ⟨⟨_, ws, rfl, (by dsimp only; exact ⟨rfl, hN_T, hN_I, hw⟩), by rw [ht]; exact hP, va_K.moved hW.alike hK, hD⟩, hS.F ht⟩) hS.2.2 d_F_readFit_33
  · have hf := z_t hc hf
    refine lv_iconst (v := 3) hx hb d_F_readFit_18 (by decide) ?_
    obtain rfl := Option.some.inj hf
    exact W.iret hx hb hr (fun t ht hW => ⟨⟨_, ws, rfl, (by dsimp only; exact ⟨rfl, hN_T, hN_I, hw⟩), by rw [ht]; exact hP, va_K.moved hW.alike hK, hD⟩, hS.F ht⟩) hS.2.2 d_F_readFit_19
