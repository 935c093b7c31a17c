def f_F_readWaiting (x1 : Int32) (O_side : Int32) (K_count : Int32) (KA_n : Nat) (KA_f : Nat → Int32) (T_domain : Int32) (T_turn : Int32) (T_contrast : Int32) (T_offset : Int32) (T_error : Int32) (I_filled : Int32) (I_taken : Int32) (IA_n : Nat) (IA_f : Nat → Int32) : Option (Int32 × Int32 × (Nat → Int32) × Int32 × Int32 × Int32 × Int32 × Int32 × Int32) := (f_B_rewind).bind (fun q98 => (f_B_take (3 : Int32) I_filled q98 IA_n IA_f).bind (fun q99 => if q99.1 = ((-1) : Int32) then (some ((3 : Int32), K_count, KA_f, T_domain, T_turn, T_contrast, T_offset, T_error, q99.2)) else ((f_F_isSize ((1 : Int32) <<< (q99.1 &&& 31))).bind (fun q100 => if q100 = 0 then (some ((0 : Int32), K_count, KA_f, T_domain, T_turn, T_contrast, T_offset, T_error, q99.2)) else (if ((1 : Int32) <<< (q99.1 &&& 31)) ≤ (O_side / (2 : Int32)) then ((f_F_readQuarters 6 (0 : Int32) (0 : Int32) (O_side / (2 : Int32)) ((1 : Int32) <<< (q99.1 &&& 31)) x1 O_side K_count KA_n KA_f T_domain T_turn T_contrast T_offset T_error I_filled q99.2 IA_n IA_f).bind (fun q102 => if q102.1 = ((-1) : Int32) then ((f_B_restIsFilling I_filled q102.2.2.2.2.2.2.2.2 IA_n IA_f).bind (fun q103 => if q103 = 0 then (some ((4 : Int32), q102.2.1, q102.2.2.1, q102.2.2.2.1, q102.2.2.2.2.1, q102.2.2.2.2.2.1, q102.2.2.2.2.2.2.1, q102.2.2.2.2.2.2.2.1, q102.2.2.2.2.2.2.2.2)) else (some (((-1) : Int32), q102.2.1, q102.2.2.1, q102.2.2.2.1, q102.2.2.2.2.1, q102.2.2.2.2.2.1, q102.2.2.2.2.2.2.1, q102.2.2.2.2.2.2.2.1, q102.2.2.2.2.2.2.2.2)))) else (some (q102.1, q102.2.1, q102.2.2.1, q102.2.2.2.1, q102.2.2.2.2.1, q102.2.2.2.2.2.1, q102.2.2.2.2.2.2.1, q102.2.2.2.2.2.2.2.1, q102.2.2.2.2.2.2.2.2)))) else (some ((0 : Int32), K_count, KA_f, T_domain, T_turn, T_contrast, T_offset, T_error, q99.2)))))))
set_option maxHeartbeats 4000000 in
set_option maxRecDepth 100000 in
theorem c_F_readWaiting (l : Launch) (dC : Nat → ClassId) (dI : Nat → Nat → Nat) (cI cL : ClassId) {ws0 : va_W} (sz : Nat) {aO aP aN aH aV aS aK aT aC aI aKA aIA : Nat} {O_side K_count T_domain T_turn T_contrast T_offset T_error I_filled I_taken : Int32} {KA_n IA_n : Nat} {KA_f IA_f : Nat → Int32} (x1 : Int32) (hN_O : ws0[0]? = some (aO, .inr (0, [.int O_side, .ref aP, .ref aN, .ref aH, .ref aV, .ref aS, .ref aK, .ref aT, .ref aC, .ref aI]))) (hN_K : ws0[14]? = some (aK, .inr (5, [.ref aKA, .int K_count]))) (hN_KA : ws0[15]? = some (aKA, .inl (cI, KA_n, .inl KA_f))) (hN_T : ws0[16]? = some (aT, .inr (4, [.int T_domain, .int T_turn, .int T_contrast, .int T_offset, .int T_error]))) (hN_I : ws0[19]? = some (aI, .inr (6, [.ref aIA, .int I_filled, .int I_taken]))) (hN_IA : ws0[20]? = some (aIA, .inl (cI, IA_n, .inl IA_f))) (r : Int32 × Int32 × (Nat → Int32) × Int32 × Int32 × Int32 × Int32 × Int32 × Int32) (hf : f_F_readWaiting x1 O_side K_count KA_n KA_f T_domain T_turn T_contrast T_offset T_error I_filled I_taken IA_n IA_f = some r) : Met l y_F_readWaiting w_F_readWaiting rm_F_readWaiting (va_Pc [.ref aO, .int x1] (zM dC dI cI cL ws0 sz)) (va_Qi (fun (v : Int32) (ws' : va_W) => v = r.1 ∧ ws'[14]? = some (aK, .inr (5, [.ref aKA, .int r.2.1])) ∧ ws'[15]? = some (aKA, .inl (cI, KA_n, .inl r.2.2.1)) ∧ ws'[16]? = some (aT, .inr (4, [.int r.2.2.2.1, .int r.2.2.2.2.1, .int r.2.2.2.2.2.1, .int r.2.2.2.2.2.2.1, .int r.2.2.2.2.2.2.2.1])) ∧ ws'[19]? = some (aI, .inr (6, [.ref aIA, .int I_filled, .int r.2.2.2.2.2.2.2.2])) ∧ ∀ j, j ∉ [14, 15, 16, 19] → ws'[j]? = ws0[j]?) (zQ dC dI cI cL (va_A ws0 sz)) (va_A ws0 sz)) 0 0 (va_A ws0 sz) := by
  refine Met.ofW (cc := b_F_readWaiting) (maxL := 5) (ret := some .int) (by decide) rfl ?_
  intro p e s m args below meth c s₁ B hml hv
  obtain ⟨rfl, hsz, hP, hK, hZ, hD0⟩ := hv
  have hx := B.exec
  have hb := B.bytes
  have hr := B.returns
  have hlocks := B.notSynchronized
  have hts : ∀ w ∈ BIG, w.before ([.ref aO, .int x1] : List Value).toArray s = true := fun w h => atoms_spec (ws := w_F_readWaiting) B.pre w (List.mem_cons_of_mem _ h)
  have hown : s.vm.findClass "FractalMaps" = some m.cls := findClass_of_methodNamed B.named
  subst hsz
  have hD := hD0.self (sz := s.heap.size)
  generalize hAe : va_A ws0 s.heap.size = A at hD ⊢
  have hA : ∀ q : Nat, s.heap.size ≤ q → A q := fun q h => by rw [← hAe]; exact Or.inr h
  have hS : va_S A s.heap s.heap [] := va_S.rf
  have hw : ∀ j, j ∉ [14, 15, 16, 19] → ws0[j]? = ws0[j]? := fun _ _ => rfl
  have hl := lv_entry ([.ref aO, .int x1]) (n := 5) (Nat.le_of_ble_eq_true rfl)
  rw [lg_entry_eq]
  generalize (lg_sl ([.ref aO, .int x1]) ++ List.replicate (5 - (lg_sl ([.ref aO, .int x1])).length) Slot.unset).toArray = ls at hl ⊢
  have hl : lv_has ls 5 [(0, .ref aO), (1, .int x1)] := hl
  unfold f_F_readWaiting at hf
  refine lv_aload_n hx hb d_F_readWaiting_0 rfl (lv_at hl 0 rfl) ?_
  refine gf_F_78 (v := .ref aI) hx hb hts hown hK hP hN_O rfl d_F_readWaiting_1 ?_
  obtain ⟨q98, hc, hf⟩ := z_b hf
  have hFc := z_free hD hS hA
  refine va_callv (va_runV (As := []) (rest := []) ⟨hx, hb, hml, hown, hts⟩ (c_B_rewind l dC dI cI cL _ hN_I q98 hc) (cw_F_256 hts hZ ⟨Nat.le_of_ble_eq_true rfl, Nat.le_of_ble_eq_true rfl⟩) ⟨zbM, va_recv hK hP (ci := 6) rfl hN_I, (zpM hP hK hZ hD)⟩ rfl rfl hl.1 rfl (lv_room (Nat.le_of_ble_eq_true rfl)) d_F_readWaiting_4 ⟨Nat.zero_le _, Nat.zero_le _⟩) hS (fun q _ h => hFc q h) hFc (fun ws t H locs ht hvm hu hB hz1 hk1 hS => ?_)
  obtain ⟨hN_I, hfr⟩ := hu
  obtain ⟨hP, -, hD1⟩ := hB
  rw [ht] at hP
  have hD := hD1.weaken (fun _ _ _ h => hFc _ h)
  have hN_I : ws[19]? = some (aI, .inr (6, [.ref aIA, .int I_filled, .int q98])) := hN_I
  have hN_O := (hfr _ (by decide)).trans hN_O
  have hN_K := (hfr _ (by decide)).trans hN_K
  have hN_KA := (hfr _ (by decide)).trans hN_KA
  have hN_T := (hfr _ (by decide)).trans hN_T
  have hN_IA := (hfr _ (by decide)).trans hN_IA
  have hw := z_frC (by decide) hw hfr
  refine lv_aload_n hx hb d_F_readWaiting_7 rfl (lv_at hl 0 rfl) ?_
  refine gf_F_78 (v := .ref aI) hx hb hts hown hK hP hN_O rfl d_F_readWaiting_8 ?_
  refine lv_iconst (v := 3) hx hb d_F_readWaiting_11 (by decide) ?_
  obtain ⟨q99, hc, hf⟩ := z_b hf
  have hFc := z_free hD hS hA
  refine va_calli (va_runV (As := [.int (3 : Int32)]) (rest := []) ⟨hx, hb, hml, hown, hts⟩ (c_B_take l dC dI cI cL _ (3 : Int32) hN_I hN_IA (by decide) q99 hc) (cw_F_259 hts hZ ⟨Nat.le_of_ble_eq_true rfl, Nat.le_of_ble_eq_true rfl⟩) ⟨zbM, va_recv hK hP (ci := 6) rfl hN_I, (zpM hP hK hZ hD)⟩ rfl rfl hl.1 rfl (lv_room (Nat.le_of_ble_eq_true rfl)) d_F_readWaiting_12 ⟨Nat.zero_le _, Nat.zero_le _⟩) hS (fun q _ h => hFc q h) hFc (fun rv ws t H locs ht hvm hu hB hz1 hk1 hS => ?_)
  obtain ⟨hv, hN_I, hfr⟩ := hu
  subst hv
  obtain ⟨hP, -, hD1⟩ := hB
  rw [ht] at hP
  have hD := hD1.weaken (fun _ _ _ h => hFc _ h)
  have hN_I : ws[19]? = some (aI, .inr (6, [.ref aIA, .int I_filled, .int q99.2])) := hN_I
  have hN_O := (hfr _ (by decide)).trans hN_O
  have hN_K := (hfr _ (by decide)).trans hN_K
  have hN_KA := (hfr _ (by decide)).trans hN_KA
  have hN_T := (hfr _ (by decide)).trans hN_T
  have hN_IA := (hfr _ (by decide)).trans hN_IA
  have hw := z_frC (by decide) hw hfr
  refine lv_istore_n (lv' := [(2, .int q99.1), (0, .ref aO), (1, .int x1)]) hx hb d_F_readWaiting_15 rfl hl (by decide) rfl (fun ls hl => ?_)
  refine lv_iload_n hx hb d_F_readWaiting_16 rfl (lv_at hl 0 rfl) ?_
  refine lv_iconst (v := (-1)) hx hb d_F_readWaiting_17 (by decide) ?_
  refine lv_icmp_ne (tgt := 23) hx hb d_F_readWaiting_18 (by decide) (fun hc => ?_) (fun hc => ?_)
  · have hf := z_f hc hf
    refine lv_iconst (v := 1) hx hb d_F_readWaiting_23 (by decide) ?_
    refine lv_iload_n hx hb d_F_readWaiting_24 rfl (lv_at hl 0 rfl) ?_
    refine lv_ishl hx hb d_F_readWaiting_25 ?_
    refine lv_istore_n (lv' := [(3, .int ((1 : Int32) <<< (q99.1 &&& 31))), (2, .int q99.1), (0, .ref aO), (1, .int x1)]) hx hb d_F_readWaiting_26 rfl hl (by decide) rfl (fun ls hl => ?_)
    refine lv_iload_n hx hb d_F_readWaiting_27 rfl (lv_at hl 0 rfl) ?_
    obtain ⟨q100, hc, hf⟩ := z_b hf
    refine vp_callSi (z_cr (va_runS (As := [.int ((1 : Int32) <<< (q99.1 &&& 31))]) (rest := []) ⟨hx, hb, hml, hown, hts⟩ (c_F_isSize l ((1 : Int32) <<< (q99.1 &&& 31)) q100 hc) (cw_F_110 hts ⟨Nat.le_of_ble_eq_true rfl, Nat.le_of_ble_eq_true rfl⟩) ⟨zb0, zp0⟩ rfl rfl hl.1 rfl (lv_room (Nat.le_of_ble_eq_true rfl)) d_F_readWaiting_28 ⟨Nat.zero_le _, Nat.zero_le _⟩)) (fun r101 hv => ?_)
    have hv := hv.symm
    subst hv
    refine lv_if_eq (tgt := 44) hx hb d_F_readWaiting_31 (by decide) (fun hc => ?_) (fun hc => ?_)
    · have hf := z_t hc hf
      refine lv_iconst (v := 0) hx hb d_F_readWaiting_44 (by decide) ?_
      obtain rfl := Option.some.inj hf
      exact W.iret hx hb hr (fun t ht hW => ⟨⟨_, ws, rfl, ⟨rfl, hN_K, hN_KA, hN_T, hN_I, hw⟩, by rw [ht]; exact hP, va_K.moved hW.alike hK, hD⟩, hS.F ht⟩) hS.2.2 d_F_readWaiting_45
    · have hf := z_f hc hf
      refine lv_iload_n hx hb d_F_readWaiting_34 rfl (lv_at hl 0 rfl) ?_
      refine lv_aload_n hx hb d_F_readWaiting_35 rfl (lv_at hl 2 rfl) ?_
      refine gf_F_16 (v := .int O_side) hx hb hts hown hK hP hN_O rfl d_F_readWaiting_36 ?_
      refine lv_iconst (v := 2) hx hb d_F_readWaiting_39 (by decide) ?_
      refine lv_idiv hx hb d_F_readWaiting_40 (by decide) ?_
      refine lv_icmp_le (tgt := 46) hx hb d_F_readWaiting_41 (by decide) (fun hc => ?_) (fun hc => ?_)
      · have hf := z_t hc hf
        refine lv_aload_n hx hb d_F_readWaiting_46 rfl (lv_at hl 2 rfl) ?_
        refine lv_iconst (v := 0) hx hb d_F_readWaiting_47 (by decide) ?_
        refine lv_iconst (v := 0) hx hb d_F_readWaiting_48 (by decide) ?_
        refine lv_aload_n hx hb d_F_readWaiting_49 rfl (lv_at hl 2 rfl) ?_
        refine gf_F_16 (v := .int O_side) hx hb hts hown hK hP hN_O rfl d_F_readWaiting_50 ?_
        refine lv_iconst (v := 2) hx hb d_F_readWaiting_53 (by decide) ?_
        refine lv_idiv hx hb d_F_readWaiting_54 (by decide) ?_
        refine lv_iload_n hx hb d_F_readWaiting_55 rfl (lv_at hl 0 rfl) ?_
        refine lv_iload_n hx hb d_F_readWaiting_56 rfl (lv_at hl 3 rfl) ?_
        obtain ⟨q102, hc, hf⟩ := z_b hf
        have hFc := z_free hD hS hA
        refine va_calli (va_runV (As := [.int (0 : Int32), .int (0 : Int32), .int (O_side / (2 : Int32)), .int ((1 : Int32) <<< (q99.1 &&& 31)), .int x1]) (rest := []) ⟨hx, hb, hml, hown, hts⟩ (c_F_readQuarters l 6 dC dI cI cL _ (0 : Int32) (0 : Int32) (O_side / (2 : Int32)) ((1 : Int32) <<< (q99.1 &&& 31)) x1 hN_O hN_K hN_KA hN_T hN_I hN_IA q102 hc) (cw_F_262 6 hts ⟨Nat.le_of_ble_eq_true rfl, Nat.le_of_ble_eq_true rfl⟩) ⟨zbM, va_recv hK hP (ci := 0) rfl hN_O, (zpM hP hK hZ hD)⟩ rfl rfl hl.1 rfl (lv_room (Nat.le_of_ble_eq_true rfl)) d_F_readWaiting_57 ⟨Nat.zero_le _, Nat.zero_le _⟩) hS (fun q _ h => hFc q h) hFc (fun rv ws t H locs ht hvm hu hB hz1 hk1 hS => ?_)
        obtain ⟨hv, hN_K, hN_KA, hN_T, hN_I, hfr⟩ := hu
        subst hv
        obtain ⟨hP, -, hD1⟩ := hB
        rw [ht] at hP
        have hD := hD1.weaken (fun _ _ _ h => hFc _ h)
        have hN_K : ws[14]? = some (aK, .inr (5, [.ref aKA, .int q102.2.1])) := hN_K
        have hN_KA : ws[15]? = some (aKA, .inl (cI, KA_n, .inl q102.2.2.1)) := hN_KA
        have hN_T : ws[16]? = some (aT, .inr (4, [.int q102.2.2.2.1, .int q102.2.2.2.2.1, .int q102.2.2.2.2.2.1, .int q102.2.2.2.2.2.2.1, .int q102.2.2.2.2.2.2.2.1])) := hN_T
        have hN_I : ws[19]? = some (aI, .inr (6, [.ref aIA, .int I_filled, .int q102.2.2.2.2.2.2.2.2])) := hN_I
        have hN_O := (hfr _ (by decide)).trans hN_O
        have hN_IA := (hfr _ (by decide)).trans hN_IA
        have hw := z_frC (by decide) hw hfr
        refine lv_istore (lv' := [(4, .int q102.1), (3, .int ((1 : Int32) <<< (q99.1 &&& 31))), (2, .int q99.1), (0, .ref aO), (1, .int x1)]) hx hb d_F_readWaiting_60 hl (by decide) rfl (fun ls hl => ?_)
        refine lv_iload hx hb d_F_readWaiting_62 (lv_at hl 0 rfl) ?_
        refine lv_iconst (v := (-1)) hx hb d_F_readWaiting_64 (by decide) ?_
        refine lv_icmp_eq (tgt := 71) hx hb d_F_readWaiting_65 (by decide) (fun hc => ?_) (fun hc => ?_)
        · have hf := z_t hc hf
          refine lv_aload_n hx hb d_F_readWaiting_71 rfl (lv_at hl 3 rfl) ?_
          refine gf_F_78 (v := .ref aI) hx hb hts hown hK hP hN_O rfl d_F_readWaiting_72 ?_
          obtain ⟨q103, hc, hf⟩ := z_b hf
          refine vp_callSi (z_cr (va_runV (As := []) (rest := []) ⟨hx, hb, hml, hown, hts⟩ (c_B_restIsFilling l dC dI cI cL hN_I hN_IA q103 hc) (cw_F_266 hts hZ ⟨Nat.le_of_ble_eq_true rfl, Nat.le_of_ble_eq_true rfl⟩) ⟨zbR, va_recv hK hP (ci := 6) rfl hN_I, (zpR hP hK hZ)⟩ rfl rfl hl.1 rfl (lv_room (Nat.le_of_ble_eq_true rfl)) d_F_readWaiting_75 ⟨Nat.zero_le _, Nat.zero_le _⟩)) (fun r104 hv => ?_)
          have hv := hv.symm
          subst hv
          refine lv_if_eq (tgt := 85) hx hb d_F_readWaiting_78 (by decide) (fun hc => ?_) (fun hc => ?_)
          · have hf := z_t hc hf
            refine lv_iconst (v := 4) hx hb d_F_readWaiting_85 (by decide) ?_
            obtain rfl := Option.some.inj hf
            exact W.iret hx hb hr (fun t ht hW => ⟨⟨_, ws, rfl, ⟨rfl, hN_K, hN_KA, hN_T, hN_I, hw⟩, by rw [ht]; exact hP, va_K.moved hW.alike hK, hD⟩, hS.F ht⟩) hS.2.2 d_F_readWaiting_86
          · have hf := z_f hc hf
            refine lv_iconst (v := (-1)) hx hb d_F_readWaiting_81 (by decide) ?_
            refine lv_goto (tgt := 86) hx hb d_F_readWaiting_82 (by decide) ?_
            obtain rfl := Option.some.inj hf
            exact W.iret hx hb hr (fun t ht hW => ⟨⟨_, ws, rfl, ⟨rfl, hN_K, hN_KA, hN_T, hN_I, hw⟩, by rw [ht]; exact hP, va_K.moved hW.alike hK, hD⟩, hS.F ht⟩) hS.2.2 d_F_readWaiting_86
        · have hf := z_f hc hf
          refine lv_iload hx hb d_F_readWaiting_68 (lv_at hl 0 rfl) ?_
          obtain rfl := Option.some.inj hf
          exact W.iret hx hb hr (fun t ht hW => ⟨⟨_, ws, rfl, ⟨rfl, hN_K, hN_KA, hN_T, hN_I, hw⟩, by rw [ht]; exact hP, va_K.moved hW.alike hK, hD⟩, hS.F ht⟩) hS.2.2 d_F_readWaiting_70
      · have hf := z_f hc hf
        refine lv_iconst (v := 0) hx hb d_F_readWaiting_44 (by decide) ?_
        obtain rfl := Option.some.inj hf
        exact W.iret hx hb hr (fun t ht hW => ⟨⟨_, ws, rfl, ⟨rfl, hN_K, hN_KA, hN_T, hN_I, hw⟩, by rw [ht]; exact hP, va_K.moved hW.alike hK, hD⟩, hS.F ht⟩) hS.2.2 d_F_readWaiting_45
  · have hf := z_t hc hf
    refine lv_iconst (v := 3) hx hb d_F_readWaiting_21 (by decide) ?_
    obtain rfl := Option.some.inj hf
    exact W.iret hx hb hr (fun t ht hW => ⟨⟨_, ws, rfl, ⟨rfl, hN_K, hN_KA, hN_T, hN_I, hw⟩, by rw [ht]; exact hP, va_K.moved hW.alike hK, hD⟩, hS.F ht⟩) hS.2.2 d_F_readWaiting_22
def f_K_wipe : Option (Int32) := some (0 : Int32)
set_option maxHeartbeats 4000000 in
set_option maxRecDepth 100000 in
theorem c_K_wipe (l : Launch) (dC : Nat → ClassId) (dI : Nat → Nat → Nat) (cI cL : ClassId) {ws0 : va_W} (sz : Nat) {kK aK aKA : Nat} {K_count : Int32} (hN_K : ws0[kK]? = some (aK, .inr (5, [.ref aKA, .int K_count]))) (r : Int32) (hf : f_K_wipe = some r) : Met l y_K_wipe w_K_wipe rm_K_wipe (va_Pc [.ref aK] (zM dC dI cI cL ws0 sz)) (va_Qv (fun ws' : va_W => ws'[kK]? = some (aK, .inr (5, [.ref aKA, .int r])) ∧ ∀ j, j ∉ [kK] → ws'[j]? = ws0[j]?) (zQ dC dI cI cL (va_A ws0 sz)) (va_A ws0 sz)) 0 0 (va_A ws0 sz) := by
  refine Met.ofW (cc := b_K_wipe) (maxL := 1) (ret := none) (by decide) rfl ?_
  intro p e s m args below meth c s₁ B hml hv
  obtain ⟨rfl, hsz, hP, hK, hZ, hD0⟩ := hv
  have hx := B.exec
  have hb := B.bytes
  have hr := B.returns
  have hlocks := B.notSynchronized
  have hts : ∀ w ∈ BIG, w.before ([.ref aK] : List Value).toArray s = true := fun w h => atoms_spec (ws := w_K_wipe) B.pre w (List.mem_cons_of_mem _ h)
  have hown : s.vm.findClass "FractalMaps$Blocks" = some m.cls := findClass_of_methodNamed B.named
  subst hsz
  have hD := hD0.self (sz := s.heap.size)
  generalize hAe : va_A ws0 s.heap.size = A at hD ⊢
  have hA : ∀ q : Nat, s.heap.size ≤ q → A q := fun q h => by rw [← hAe]; exact Or.inr h
  have hS : va_S A s.heap s.heap [] := va_S.rf
  have hw : ∀ j, j ∉ [kK] → ws0[j]? = ws0[j]? := fun _ _ => rfl
  have hl := lv_entry ([.ref aK]) (n := 1) (Nat.le_of_ble_eq_true rfl)
  rw [lg_entry_eq]
  generalize (lg_sl ([.ref aK]) ++ List.replicate (1 - (lg_sl ([.ref aK])).length) Slot.unset).toArray = ls at hl ⊢
  have hl : lv_has ls 1 [(0, .ref aK)] := hl
  unfold f_K_wipe at hf
  refine lv_aload_n hx hb d_K_wipe_0 rfl (lv_at hl 0 rfl) ?_
  refine lv_iconst (v := 0) hx hb d_K_wipe_1 (by decide) ?_
  refine pf_K_24 (v := .int (0 : Int32)) hx hb hts hown hK hP hD hS hN_K rfl rfl (Nat.le_of_ble_eq_true rfl) d_K_wipe_2 (fun ws H locs hP hD hS hN_K hfr => ?_)
  have hN_K : ws[kK]? = some (aK, .inr (5, [.ref aKA, .int (0 : Int32)])) := hN_K
  have hw := z_fr List.mem_cons_self hw hfr
  obtain rfl := Option.some.inj hf
  exact W.vret hx hb hr (fun t ht hW => ⟨⟨ws, rfl, ⟨hN_K, hw⟩, by rw [ht]; exact hP, va_K.moved hW.alike hK, hD⟩, hS.F ht⟩) hS.2.2 d_K_wipe_5
def f_B_wipe : Option (Int32 × Int32) := some ((0 : Int32), (0 : Int32))
set_option maxHeartbeats 4000000 in
set_option maxRecDepth 100000 in
theorem c_B_wipe (l : Launch) (dC : Nat → ClassId) (dI : Nat → Nat → Nat) (cI cL : ClassId) {ws0 : va_W} (sz : Nat) {kB aB aBA : Nat} {B_filled B_taken : Int32} (hN_B : ws0[kB]? = some (aB, .inr (6, [.ref aBA, .int B_filled, .int B_taken]))) (r : Int32 × Int32) (hf : f_B_wipe = some r) : Met l y_B_wipe w_B_wipe rm_B_wipe (va_Pc [.ref aB] (zM dC dI cI cL ws0 sz)) (va_Qv (fun ws' : va_W => ws'[kB]? = some (aB, .inr (6, [.ref aBA, .int r.1, .int r.2])) ∧ ∀ j, j ∉ [kB] → ws'[j]? = ws0[j]?) (zQ dC dI cI cL (va_A ws0 sz)) (va_A ws0 sz)) 0 0 (va_A ws0 sz) := by
  refine Met.ofW (cc := b_B_wipe) (maxL := 1) (ret := none) (by decide) rfl ?_
  intro p e s m args below meth c s₁ B hml hv
  obtain ⟨rfl, hsz, hP, hK, hZ, hD0⟩ := hv
  have hx := B.exec
  have hb := B.bytes
  have hr := B.returns
  have hlocks := B.notSynchronized
  have hts : ∀ w ∈ BIG, w.before ([.ref aB] : List Value).toArray s = true := fun w h => atoms_spec (ws := w_B_wipe) B.pre w (List.mem_cons_of_mem _ h)
  have hown : s.vm.findClass "FractalMaps$Bits" = some m.cls := findClass_of_methodNamed B.named
  subst hsz
  have hD := hD0.self (sz := s.heap.size)
  generalize hAe : va_A ws0 s.heap.size = A at hD ⊢
  have hA : ∀ q : Nat, s.heap.size ≤ q → A q := fun q h => by rw [← hAe]; exact Or.inr h
  have hS : va_S A s.heap s.heap [] := va_S.rf
  have hw : ∀ j, j ∉ [kB] → ws0[j]? = ws0[j]? := fun _ _ => rfl
  have hl := lv_entry ([.ref aB]) (n := 1) (Nat.le_of_ble_eq_true rfl)
  rw [lg_entry_eq]
  generalize (lg_sl ([.ref aB]) ++ List.replicate (1 - (lg_sl ([.ref aB])).length) Slot.unset).toArray = ls at hl ⊢
  have hl : lv_has ls 1 [(0, .ref aB)] := hl
  unfold f_B_wipe at hf
  refine lv_aload_n hx hb d_B_wipe_0 rfl (lv_at hl 0 rfl) ?_
  refine lv_iconst (v := 0) hx hb d_B_wipe_1 (by decide) ?_
  refine pf_B_24 (v := .int (0 : Int32)) hx hb hts hown hK hP hD hS hN_B rfl rfl (Nat.le_of_ble_eq_true rfl) d_B_wipe_2 (fun ws H locs hP hD hS hN_B hfr => ?_)
  have hN_B : ws[kB]? = some (aB, .inr (6, [.ref aBA, .int (0 : Int32), .int B_taken])) := hN_B
  have hw := z_fr List.mem_cons_self hw hfr
  refine lv_aload_n hx hb d_B_wipe_5 rfl (lv_at hl 0 rfl) ?_
  refine lv_iconst (v := 0) hx hb d_B_wipe_6 (by decide) ?_
  refine pf_B_28 (v := .int (0 : Int32)) hx hb hts hown hK hP hD hS hN_B rfl rfl (Nat.le_of_ble_eq_true rfl) d_B_wipe_7 (fun ws H locs hP hD hS hN_B hfr => ?_)
  have hN_B : ws[kB]? = some (aB, .inr (6, [.ref aBA, .int (0 : Int32), .int (0 : Int32)])) := hN_B
  have hw := z_fr List.mem_cons_self hw hfr
  obtain rfl := Option.some.inj hf
  exact W.vret hx hb hr (fun t ht hW => ⟨⟨ws, rfl, ⟨hN_B, hw⟩, by rw [ht]; exact hP, va_K.moved hW.alike hK, hD⟩, hS.F ht⟩) hS.2.2 d_B_wipe_10
def f_F_read (O_side : Int32) (K_count : Int32) (KA_n : Nat) (KA_f : Nat → Int32) (T_domain : Int32) (T_turn : Int32) (T_contrast : Int32) (T_offset : Int32) (T_error : Int32) (I_filled : Int32) (I_taken : Int32) (IA_n : Nat) (IA_f : Nat → Int32) : Option (Int32 × Int32 × (Nat → Int32) × Int32 × Int32 × Int32 × Int32 × Int32 × Int32 × Int32) := (f_F_readWaiting (0 : Int32) O_side K_count KA_n KA_f T_domain T_turn T_contrast T_offset T_error I_filled I_taken IA_n IA_f).bind (fun q105 => if q105.1 = ((-1) : Int32) then ((f_K_wipe).bind (fun q107 => (f_F_readWaiting (1 : Int32) O_side q107 KA_n q105.2.2.1 q105.2.2.2.1 q105.2.2.2.2.1 q105.2.2.2.2.2.1 q105.2.2.2.2.2.2.1 q105.2.2.2.2.2.2.2.1 I_filled q105.2.2.2.2.2.2.2.2 IA_n IA_f).bind (fun q108 => (f_B_wipe).bind (fun q109 => if q105.1 = ((-1) : Int32) then (some (q108.2.1, q108.2.1, q108.2.2.1, q108.2.2.2.1, q108.2.2.2.2.1, q108.2.2.2.2.2.1, q108.2.2.2.2.2.2.1, q108.2.2.2.2.2.2.2.1, q109.1, q109.2)) else (some ((((-1) : Int32) - q105.1), q108.2.1, q108.2.2.1, q108.2.2.2.1, q108.2.2.2.2.1, q108.2.2.2.2.2.1, q108.2.2.2.2.2.2.1, q108.2.2.2.2.2.2.2.1, q109.1, q109.2)))))) else ((f_B_wipe).bind (fun q106 => if q105.1 = ((-1) : Int32) then (some (q105.2.1, q105.2.1, q105.2.2.1, q105.2.2.2.1, q105.2.2.2.2.1, q105.2.2.2.2.2.1, q105.2.2.2.2.2.2.1, q105.2.2.2.2.2.2.2.1, q106.1, q106.2)) else (some ((((-1) : Int32) - q105.1), q105.2.1, q105.2.2.1, q105.2.2.2.1, q105.2.2.2.2.1, q105.2.2.2.2.2.1, q105.2.2.2.2.2.2.1, q105.2.2.2.2.2.2.2.1, q106.1, q106.2)))))
set_option maxHeartbeats 4000000 in
set_option maxRecDepth 100000 in
theorem c_F_read (l : Launch) (dC : Nat → ClassId) (dI : Nat → Nat → Nat) (cI cL : ClassId) {ws0 : va_W} (sz : Nat) {aO aP aN aH aV aS aK aT aC aI aKA aIA : Nat} {O_side K_count T_domain T_turn T_contrast T_offset T_error I_filled I_taken : Int32} {KA_n IA_n : Nat} {KA_f IA_f : Nat → Int32} (hN_O : ws0[0]? = some (aO, .inr (0, [.int O_side, .ref aP, .ref aN, .ref aH, .ref aV, .ref aS, .ref aK, .ref aT, .ref aC, .ref aI]))) (hN_K : ws0[14]? = some (aK, .inr (5, [.ref aKA, .int K_count]))) (hN_KA : ws0[15]? = some (aKA, .inl (cI, KA_n, .inl KA_f))) (hN_T : ws0[16]? = some (aT, .inr (4, [.int T_domain, .int T_turn, .int T_contrast, .int T_offset, .int T_error]))) (hN_I : ws0[19]? = some (aI, .inr (6, [.ref aIA, .int I_filled, .int I_taken]))) (hN_IA : ws0[20]? = some (aIA, .inl (cI, IA_n, .inl IA_f))) (r : Int32 × Int32 × (Nat → Int32) × Int32 × Int32 × Int32 × Int32 × Int32 × Int32 × Int32) (hf : f_F_read O_side K_count KA_n KA_f T_domain T_turn T_contrast T_offset T_error I_filled I_taken IA_n IA_f = some r) : Met l y_F_read w_F_read rm_F_read (va_Pc [.ref aO] (zM dC dI cI cL ws0 sz)) (va_Qi (fun (v : Int32) (ws' : va_W) => v = r.1 ∧ ws'[14]? = some (aK, .inr (5, [.ref aKA, .int r.2.1])) ∧ ws'[15]? = some (aKA, .inl (cI, KA_n, .inl r.2.2.1)) ∧ ws'[16]? = some (aT, .inr (4, [.int r.2.2.2.1, .int r.2.2.2.2.1, .int r.2.2.2.2.2.1, .int r.2.2.2.2.2.2.1, .int r.2.2.2.2.2.2.2.1])) ∧ ws'[19]? = some (aI, .inr (6, [.ref aIA, .int r.2.2.2.2.2.2.2.2.1, .int r.2.2.2.2.2.2.2.2.2])) ∧ ∀ j, j ∉ [14, 15, 16, 19] → ws'[j]? = ws0[j]?) (zQ dC dI cI cL (va_A ws0 sz)) (va_A ws0 sz)) 0 0 (va_A ws0 sz) := by
  refine Met.ofW (cc := b_F_read) (maxL := 2) (ret := some .int) (by decide) rfl ?_
  intro p e s m args below meth c s₁ B hml hv
  obtain ⟨rfl, hsz, hP, hK, hZ, hD0⟩ := hv
  have hx := B.exec
  have hb := B.bytes
  have hr := B.returns
  have hlocks := B.notSynchronized
  have hts : ∀ w ∈ BIG, w.before ([.ref aO] : List Value).toArray s = true := fun w h => atoms_spec (ws := w_F_read) B.pre w (List.mem_cons_of_mem _ h)
  have hown : s.vm.findClass "FractalMaps" = some m.cls := findClass_of_methodNamed B.named
  subst hsz
  have hD := hD0.self (sz := s.heap.size)
  generalize hAe : va_A ws0 s.heap.size = A at hD ⊢
  have hA : ∀ q : Nat, s.heap.size ≤ q → A q := fun q h => by rw [← hAe]; exact Or.inr h
  have hS : va_S A s.heap s.heap [] := va_S.rf
  have hw : ∀ j, j ∉ [14, 15, 16, 19] → ws0[j]? = ws0[j]? := fun _ _ => rfl
  have hl := lv_entry ([.ref aO]) (n := 2) (Nat.le_of_ble_eq_true rfl)
  rw [lg_entry_eq]
  generalize (lg_sl ([.ref aO]) ++ List.replicate (2 - (lg_sl ([.ref aO])).length) Slot.unset).toArray = ls at hl ⊢
  have hl : lv_has ls 2 [(0, .ref aO)] := hl
  unfold f_F_read at hf
  refine lv_aload_n hx hb d_F_read_0 rfl (lv_at hl 0 rfl) ?_
  refine lv_iconst (v := 0) hx hb d_F_read_1 (by decide) ?_
  obtain ⟨q105, hc, hf⟩ := z_b hf
  have hFc := z_free hD hS hA
  refine va_calli (va_runV (As := [.int (0 : Int32)]) (rest := []) ⟨hx, hb, hml, hown, hts⟩ (c_F_readWaiting l dC dI cI cL _ (0 : Int32) hN_O hN_K hN_KA hN_T hN_I hN_IA q105 hc) (cw_F_164 hts ⟨Nat.le_of_ble_eq_true rfl, Nat.le_of_ble_eq_true rfl⟩) ⟨zbM, va_recv hK hP (ci := 0) rfl hN_O, (zpM hP hK hZ hD)⟩ rfl rfl hl.1 rfl (lv_room (Nat.le_of_ble_eq_true rfl)) d_F_read_2 ⟨Nat.zero_le _, Nat.zero_le _⟩) hS (fun q _ h => hFc q h) hFc (fun rv ws t H locs ht hvm hu hB hz1 hk1 hS => ?_)
  obtain ⟨hv, hN_K, hN_KA, hN_T, hN_I, hfr⟩ := hu
  subst hv
  obtain ⟨hP, -, hD1⟩ := hB
  rw [ht] at hP
  have hD := hD1.weaken (fun _ _ _ h => hFc _ h)
  have hN_K : ws[14]? = some (aK, .inr (5, [.ref aKA, .int q105.2.1])) := hN_K
  have hN_KA : ws[15]? = some (aKA, .inl (cI, KA_n, .inl q105.2.2.1)) := hN_KA
  have hN_T : ws[16]? = some (aT, .inr (4, [.int q105.2.2.2.1, .int q105.2.2.2.2.1, .int q105.2.2.2.2.2.1, .int q105.2.2.2.2.2.2.1, .int q105.2.2.2.2.2.2.2.1])) := hN_T
  have hN_I : ws[19]? = some (aI, .inr (6, [.ref aIA, .int I_filled, .int q105.2.2.2.2.2.2.2.2])) := hN_I
  have hN_O := (hfr _ (by decide)).trans hN_O
  have hN_IA := (hfr _ (by decide)).trans hN_IA
  have hw := z_frC (by decide) hw hfr
  refine lv_istore_n (lv' := [(1, .int q105.1), (0, .ref aO)]) hx hb d_F_read_5 rfl hl (by decide) rfl (fun ls hl => ?_)
  refine lv_iload_n hx hb d_F_read_6 rfl (lv_at hl 0 rfl) ?_
  refine lv_iconst (v := (-1)) hx hb d_F_read_7 (by decide) ?_
  refine lv_icmp_ne (tgt := 24) hx hb d_F_read_8 (by decide) (fun hc => ?_) (fun hc => ?_)
  · have hf := z_f hc hf
    refine lv_aload_n hx hb d_F_read_24 rfl (lv_at hl 1 rfl) ?_
    refine gf_F_78 (v := .ref aI) hx hb hts hown hK hP hN_O rfl d_F_read_25 ?_
    obtain ⟨q106, hc, hf⟩ := z_b hf
    have hFc := z_free hD hS hA
    refine va_callv (va_runV (As := []) (rest := []) ⟨hx, hb, hml, hown, hts⟩ (c_B_wipe l dC dI cI cL _ hN_I q106 hc) (cw_F_121 hts hZ ⟨Nat.le_of_ble_eq_true rfl, Nat.le_of_ble_eq_true rfl⟩) ⟨zbM, va_recv hK hP (ci := 6) rfl hN_I, (zpM hP hK hZ hD)⟩ rfl rfl hl.1 rfl (lv_room (Nat.le_of_ble_eq_true rfl)) d_F_read_28 ⟨Nat.zero_le _, Nat.zero_le _⟩) hS (fun q _ h => hFc q h) hFc (fun ws t H locs ht hvm hu hB hz1 hk1 hS => ?_)
    obtain ⟨hN_I, hfr⟩ := hu
    obtain ⟨hP, -, hD1⟩ := hB
    rw [ht] at hP
    have hD := hD1.weaken (fun _ _ _ h => hFc _ h)
    have hN_I : ws[19]? = some (aI, .inr (6, [.ref aIA, .int q106.1, .int q106.2])) := hN_I
    have hN_O := (hfr _ (by decide)).trans hN_O
    have hN_K := (hfr _ (by decide)).trans hN_K
    have hN_KA := (hfr _ (by decide)).trans hN_KA
    have hN_T := (hfr _ (by decide)).trans hN_T
    have hN_IA := (hfr _ (by decide)).trans hN_IA
    have hw := z_frC (by decide) hw hfr
    refine lv_iload_n hx hb d_F_read_31 rfl (lv_at hl 0 rfl) ?_
    refine lv_iconst (v := (-1)) hx hb d_F_read_32 (by decide) ?_
    refine lv_icmp_ne (tgt := 46) hx hb d_F_read_33 (by decide) (fun hc => ?_) (fun hc => ?_)
    · have hf := z_f hc hf
      refine lv_iconst (v := (-1)) hx hb d_F_read_46 (by decide) ?_
      refine lv_iload_n hx hb d_F_read_47 rfl (lv_at hl 0 rfl) ?_
      refine lv_isub hx hb d_F_read_48 ?_
      obtain rfl := Option.some.inj hf
      exact W.iret hx hb hr (fun t ht hW => ⟨⟨_, ws, rfl, ⟨rfl, hN_K, hN_KA, hN_T, hN_I, hw⟩, by rw [ht]; exact hP, va_K.moved hW.alike hK, hD⟩, hS.F ht⟩) hS.2.2 d_F_read_49
    · have hf := z_t hc hf
      refine lv_aload_n hx hb d_F_read_36 rfl (lv_at hl 1 rfl) ?_
      refine gf_F_60 (v := .ref aK) hx hb hts hown hK hP hN_O rfl d_F_read_37 ?_
      refine gf_F_136 (v := .int q105.2.1) hx hb hts hown hK hZ hP hN_K rfl d_F_read_40 ?_
      refine lv_goto (tgt := 49) hx hb d_F_read_43 (by decide) ?_
      obtain rfl := Option.some.inj hf
      exact W.iret hx hb hr (fun t ht hW => ⟨⟨_, ws, rfl, ⟨rfl, hN_K, hN_KA, hN_T, hN_I, hw⟩, by rw [ht]; exact hP, va_K.moved hW.alike hK, hD⟩, hS.F ht⟩) hS.2.2 d_F_read_49
  · have hf := z_t hc hf
    refine lv_aload_n hx hb d_F_read_11 rfl (lv_at hl 1 rfl) ?_
    refine gf_F_60 (v := .ref aK) hx hb hts hown hK hP hN_O rfl d_F_read_12 ?_
    obtain ⟨q107, hc, hf⟩ := z_b hf
    have hFc := z_free hD hS hA
    refine va_callv (va_runV (As := []) (rest := []) ⟨hx, hb, hml, hown, hts⟩ (c_K_wipe l dC dI cI cL _ hN_K q107 hc) (cw_F_118 hts hZ ⟨Nat.le_of_ble_eq_true rfl, Nat.le_of_ble_eq_true rfl⟩) ⟨zbM, va_recv hK hP (ci := 5) rfl hN_K, (zpM hP hK hZ hD)⟩ rfl rfl hl.1 rfl (lv_room (Nat.le_of_ble_eq_true rfl)) d_F_read_15 ⟨Nat.zero_le _, Nat.zero_le _⟩) hS (fun q _ h => hFc q h) hFc (fun ws t H locs ht hvm hu hB hz1 hk1 hS => ?_)
    obtain ⟨hN_K, hfr⟩ := hu
    obtain ⟨hP, -, hD1⟩ := hB
    rw [ht] at hP
    have hD := hD1.weaken (fun _ _ _ h => hFc _ h)
    have hN_K : ws[14]? = some (aK, .inr (5, [.ref aKA, .int q107])) := hN_K
    have hN_O := (hfr _ (by decide)).trans hN_O
    have hN_KA := (hfr _ (by decide)).trans hN_KA
    have hN_T := (hfr _ (by decide)).trans hN_T
    have hN_I := (hfr _ (by decide)).trans hN_I
    have hN_IA := (hfr _ (by decide)).trans hN_IA
    have hw := z_frC (by decide) hw hfr
    refine lv_aload_n hx hb d_F_read_18 rfl (lv_at hl 1 rfl) ?_
    refine lv_iconst (v := 1) hx hb d_F_read_19 (by decide) ?_
    obtain ⟨q108, hc, hf⟩ := z_b hf
    have hFc := z_free hD hS hA
    refine va_calli (va_runV (As := [.int (1 : Int32)]) (rest := []) ⟨hx, hb, hml, hown, hts⟩ (c_F_readWaiting l dC dI cI cL _ (1 : Int32) hN_O hN_K hN_KA hN_T hN_I hN_IA q108 hc) (cw_F_164 hts ⟨Nat.le_of_ble_eq_true rfl, Nat.le_of_ble_eq_true rfl⟩) ⟨zbM, va_recv hK hP (ci := 0) rfl hN_O, (zpM hP hK hZ hD)⟩ rfl rfl hl.1 rfl (lv_room (Nat.le_of_ble_eq_true rfl)) d_F_read_20 ⟨Nat.zero_le _, Nat.zero_le _⟩) hS (fun q _ h => hFc q h) hFc (fun rv ws t H locs ht hvm hu hB hz1 hk1 hS => ?_)
    obtain ⟨hv, hN_K, hN_KA, hN_T, hN_I, hfr⟩ := hu
    subst hv
    obtain ⟨hP, -, hD1⟩ := hB
    rw [ht] at hP
    have hD := hD1.weaken (fun _ _ _ h => hFc _ h)
    have hN_K : ws[14]? = some (aK, .inr (5, [.ref aKA, .int q108.2.1])) := hN_K
    have hN_KA : ws[15]? = some (aKA, .inl (cI, KA_n, .inl q108.2.2.1)) := hN_KA
    have hN_T : ws[16]? = some (aT, .inr (4, [.int q108.2.2.2.1, .int q108.2.2.2.2.1, .int q108.2.2.2.2.2.1, .int q108.2.2.2.2.2.2.1, .int q108.2.2.2.2.2.2.2.1])) := hN_T
    have hN_I : ws[19]? = some (aI, .inr (6, [.ref aIA, .int I_filled, .int q108.2.2.2.2.2.2.2.2])) := hN_I
    have hN_O := (hfr _ (by decide)).trans hN_O
    have hN_IA := (hfr _ (by decide)).trans hN_IA
    have hw := z_frC (by decide) hw hfr
    refine lv_pop hx hb d_F_read_23 rfl ?_
    refine lv_aload_n hx hb d_F_read_24 rfl (lv_at hl 1 rfl) ?_
    refine gf_F_78 (v := .ref aI) hx hb hts hown hK hP hN_O rfl d_F_read_25 ?_
    obtain ⟨q109, hc, hf⟩ := z_b hf
    have hFc := z_free hD hS hA
    refine va_callv (va_runV (As := []) (rest := []) ⟨hx, hb, hml, hown, hts⟩ (c_B_wipe l dC dI cI cL _ hN_I q109 hc) (cw_F_121 hts hZ ⟨Nat.le_of_ble_eq_true rfl, Nat.le_of_ble_eq_true rfl⟩) ⟨zbM, va_recv hK hP (ci := 6) rfl hN_I, (zpM hP hK hZ hD)⟩ rfl rfl hl.1 rfl (lv_room (Nat.le_of_ble_eq_true rfl)) d_F_read_28 ⟨Nat.zero_le _, Nat.zero_le _⟩) hS (fun q _ h => hFc q h) hFc (fun ws t H locs ht hvm hu hB hz1 hk1 hS => ?_)
    obtain ⟨hN_I, hfr⟩ := hu
    obtain ⟨hP, -, hD1⟩ := hB
    rw [ht] at hP
    have hD := hD1.weaken (fun _ _ _ h => hFc _ h)
    have hN_I : ws[19]? = some (aI, .inr (6, [.ref aIA, .int q109.1, .int q109.2])) := hN_I
    have hN_O := (hfr _ (by decide)).trans hN_O
    have hN_K := (hfr _ (by decide)).trans hN_K
    have hN_KA := (hfr _ (by decide)).trans hN_KA
    have hN_T := (hfr _ (by decide)).trans hN_T
    have hN_IA := (hfr _ (by decide)).trans hN_IA
    have hw := z_frC (by decide) hw hfr
    refine lv_iload_n hx hb d_F_read_31 rfl (lv_at hl 0 rfl) ?_
    refine lv_iconst (v := (-1)) hx hb d_F_read_32 (by decide) ?_
    refine lv_icmp_ne (tgt := 46) hx hb d_F_read_33 (by decide) (fun hc => ?_) (fun hc => ?_)
    · have hf := z_f hc hf
      refine lv_iconst (v := (-1)) hx hb d_F_read_46 (by decide) ?_
      refine lv_iload_n hx hb d_F_read_47 rfl (lv_at hl 0 rfl) ?_
      refine lv_isub hx hb d_F_read_48 ?_
      obtain rfl := Option.some.inj hf
      exact W.iret hx hb hr (fun t ht hW => ⟨⟨_, ws, rfl, ⟨rfl, hN_K, hN_KA, hN_T, hN_I, hw⟩, by rw [ht]; exact hP, va_K.moved hW.alike hK, hD⟩, hS.F ht⟩) hS.2.2 d_F_read_49
    · have hf := z_t hc hf
      refine lv_aload_n hx hb d_F_read_36 rfl (lv_at hl 1 rfl) ?_
      refine gf_F_60 (v := .ref aK) hx hb hts hown hK hP hN_O rfl d_F_read_37 ?_
      refine gf_F_136 (v := .int q108.2.1) hx hb hts hown hK hZ hP hN_K rfl d_F_read_40 ?_
      refine lv_goto (tgt := 49) hx hb d_F_read_43 (by decide) ?_
      obtain rfl := Option.some.inj hf
      exact W.iret hx hb hr (fun t ht hW => ⟨⟨_, ws, rfl, ⟨rfl, hN_K, hN_KA, hN_T, hN_I, hw⟩, by rw [ht]; exact hP, va_K.moved hW.alike hK, hD⟩, hS.F ht⟩) hS.2.2 d_F_read_49
def f_B_bytes (B_filled : Int32) : Option (Int32) := some (((B_filled + (8 : Int32)) - (1 : Int32)) / (8 : Int32))
set_option maxHeartbeats 4000000 in
set_option maxRecDepth 100000 in
theorem c_B_bytes (l : Launch) (dC : Nat → ClassId) (dI : Nat → Nat → Nat) (cI cL : ClassId) {ws : va_W} {kB aB aBA : Nat} {B_filled B_taken : Int32} (hN_B : ws[kB]? = some (aB, .inr (6, [.ref aBA, .int B_filled, .int B_taken]))) (r : Int32) (hf : f_B_bytes B_filled = some r) : Met l y_B_bytes w_B_bytes rm_B_bytes (va_Pc [.ref aB] (zR dC dI cI cL ws)) (vp_Si (fun v => v = r)) 0 0 (fun _ => False) := by
  refine Met.ofW (cc := b_B_bytes) (maxL := 1) (ret := some .int) (by decide) rfl ?_
  intro p e s m args below meth c s₁ B hml hv
  obtain ⟨rfl, hP, hK, hZ⟩ := hv
  have hx := B.exec
  have hb := B.bytes
  have hr := B.returns
  have hlocks := B.notSynchronized
  have hts : ∀ w ∈ BIG, w.before ([.ref aB] : List Value).toArray s = true := fun w h => atoms_spec (ws := w_B_bytes) B.pre w (List.mem_cons_of_mem _ h)
  have hown : s.vm.findClass "FractalMaps$Bits" = some m.cls := findClass_of_methodNamed B.named
  have hl := lv_entry ([.ref aB]) (n := 1) (Nat.le_of_ble_eq_true rfl)
  rw [lg_entry_eq]
  generalize (lg_sl ([.ref aB]) ++ List.replicate (1 - (lg_sl ([.ref aB])).length) Slot.unset).toArray = ls at hl ⊢
  have hl : lv_has ls 1 [(0, .ref aB)] := hl
  unfold f_B_bytes at hf
  refine lv_aload_n hx hb d_B_bytes_0 rfl (lv_at hl 0 rfl) ?_
  refine gf_B_24 (v := .int B_filled) hx hb hts hown hK hP hN_B rfl d_B_bytes_1 ?_
  refine lv_bipush (v := 8) hx hb d_B_bytes_4 (by decide) ?_
  refine lv_iadd hx hb d_B_bytes_6 ?_
  refine lv_iconst (v := 1) hx hb d_B_bytes_7 (by decide) ?_
  refine lv_isub hx hb d_B_bytes_8 ?_
  refine lv_bipush (v := 8) hx hb d_B_bytes_9 (by decide) ?_
  refine lv_idiv hx hb d_B_bytes_11 (by decide) ?_
  obtain rfl := Option.some.inj hf
  exact W.iret hx hb hr (fun t ht hW => ⟨_, rfl, rfl, ht⟩) (fun q h => by cases h) d_B_bytes_12
def f_F_told (x1 : Int32) (O_side : Int32) (N_side : Int32) (K_count : Int32) (C_filled : Int32) (I_filled : Int32) : Option (Int32) := if x1 = (0 : Int32) then (some O_side) else (if x1 = (1 : Int32) then (some K_count) else (if x1 = (2 : Int32) then ((f_B_bytes C_filled).bind (fun q110 => some q110)) else (if x1 = (3 : Int32) then ((f_B_bytes I_filled).bind (fun q112 => some q112)) else (if x1 = (4 : Int32) then (some N_side) else (some ((-1) : Int32))))))
set_option maxHeartbeats 4000000 in
set_option maxRecDepth 100000 in
theorem c_F_told (l : Launch) (dC : Nat → ClassId) (dI : Nat → Nat → Nat) (cI cL : ClassId) {ws : va_W} {aO aP aN aH aV aS aK aT aC aI aNA aKA aCA aIA : Nat} {O_side N_mostSide N_side K_count C_filled C_taken I_filled I_taken : Int32} (x1 : Int32) (hN_O : ws[0]? = some (aO, .inr (0, [.int O_side, .ref aP, .ref aN, .ref aH, .ref aV, .ref aS, .ref aK, .ref aT, .ref aC, .ref aI]))) (hN_N : ws[3]? = some (aN, .inr (1, [.int N_mostSide, .ref aNA, .int N_side]))) (hN_K : ws[14]? = some (aK, .inr (5, [.ref aKA, .int K_count]))) (hN_C : ws[17]? = some (aC, .inr (6, [.ref aCA, .int C_filled, .int C_taken]))) (hN_I : ws[19]? = some (aI, .inr (6, [.ref aIA, .int I_filled, .int I_taken]))) (r : Int32) (hf : f_F_told x1 O_side N_side K_count C_filled I_filled = some r) : Met l y_F_told w_F_told rm_F_told (va_Pc [.ref aO, .int x1] (zR dC dI cI cL ws)) (vp_Si (fun v => v = r)) 0 0 (fun _ => False) := by
  refine Met.ofW (cc := b_F_told) (maxL := 2) (ret := some .int) (by decide) rfl ?_
  intro p e s m args below meth c s₁ B hml hv
  obtain ⟨rfl, hP, hK, hZ⟩ := hv
  have hx := B.exec
  have hb := B.bytes
  have hr := B.returns
  have hlocks := B.notSynchronized
  have hts : ∀ w ∈ BIG, w.before ([.ref aO, .int x1] : List Value).toArray s = true := fun w h => atoms_spec (ws := w_F_told) B.pre w (List.mem_cons_of_mem _ h)
  have hown : s.vm.findClass "FractalMaps" = some m.cls := findClass_of_methodNamed B.named
  have hl := lv_entry ([.ref aO, .int x1]) (n := 2) (Nat.le_of_ble_eq_true rfl)
  rw [lg_entry_eq]
  generalize (lg_sl ([.ref aO, .int x1]) ++ List.replicate (2 - (lg_sl ([.ref aO, .int x1])).length) Slot.unset).toArray = ls at hl ⊢
  have hl : lv_has ls 2 [(0, .ref aO), (1, .int x1)] := hl
  unfold f_F_told at hf
  refine lv_iload_n hx hb d_F_told_0 rfl (lv_at hl 1 rfl) ?_
  by_cases hc_0 : x1 = (0 : Int32)
  · have hf := z_t hc_0 hf
    refine lv_tableIn (tgt := 36) hx hb d_F_told_1 (by rw [hc_0]; decide) (by rw [hc_0]; decide) (by rw [hc_0]; rfl) (by decide) ?_
    refine lv_aload_n hx hb d_F_told_36 rfl (lv_at hl 0 rfl) ?_
    refine gf_F_16 (v := .int O_side) hx hb hts hown hK hP hN_O rfl d_F_told_37 ?_
    obtain rfl := Option.some.inj hf
    exact W.iret hx hb hr (fun t ht hW => ⟨_, rfl, rfl, ht⟩) (fun q h => by cases h) d_F_told_40
  have hf := z_f hc_0 hf
  have he_0 : x1.toInt ≠ 0 := fun h => hc_0 (Int32.toInt_inj.mp (h.trans (by decide)))
  by_cases hc_1 : x1 = (1 : Int32)
  · have hf := z_t hc_1 hf
    refine lv_tableIn (tgt := 41) hx hb d_F_told_1 (by rw [hc_1]; decide) (by rw [hc_1]; decide) (by rw [hc_1]; rfl) (by decide) ?_
    refine lv_aload_n hx hb d_F_told_41 rfl (lv_at hl 0 rfl) ?_
    refine gf_F_60 (v := .ref aK) hx hb hts hown hK hP hN_O rfl d_F_told_42 ?_
    refine gf_F_136 (v := .int K_count) hx hb hts hown hK hZ hP hN_K rfl d_F_told_45 ?_
    obtain rfl := Option.some.inj hf
    exact W.iret hx hb hr (fun t ht hW => ⟨_, rfl, rfl, ht⟩) (fun q h => by cases h) d_F_told_48
  have hf := z_f hc_1 hf
  have he_1 : x1.toInt ≠ 1 := fun h => hc_1 (Int32.toInt_inj.mp (h.trans (by decide)))
  by_cases hc_2 : x1 = (2 : Int32)
  · have hf := z_t hc_2 hf
    refine lv_tableIn (tgt := 49) hx hb d_F_told_1 (by rw [hc_2]; decide) (by rw [hc_2]; decide) (by rw [hc_2]; rfl) (by decide) ?_
    refine lv_aload_n hx hb d_F_told_49 rfl (lv_at hl 0 rfl) ?_
    refine gf_F_74 (v := .ref aC) hx hb hts hown hK hP hN_O rfl d_F_told_50 ?_
    obtain ⟨q110, hc, hf⟩ := z_b hf
    refine vp_callSi (z_cr (va_runV (As := []) (rest := []) ⟨hx, hb, hml, hown, hts⟩ (c_B_bytes l dC dI cI cL hN_C q110 hc) (cw_F_146 hts hZ ⟨Nat.le_of_ble_eq_true rfl, Nat.le_of_ble_eq_true rfl⟩) ⟨zbR, va_recv hK hP (ci := 6) rfl hN_C, (zpR hP hK hZ)⟩ rfl rfl hl.1 rfl (lv_room (Nat.le_of_ble_eq_true rfl)) d_F_told_53 ⟨Nat.zero_le _, Nat.zero_le _⟩)) (fun r111 hv => ?_)
    have hv := hv.symm
    subst hv
    obtain rfl := Option.some.inj hf
    exact W.iret hx hb hr (fun t ht hW => ⟨_, rfl, rfl, ht⟩) (fun q h => by cases h) d_F_told_56
  have hf := z_f hc_2 hf
  have he_2 : x1.toInt ≠ 2 := fun h => hc_2 (Int32.toInt_inj.mp (h.trans (by decide)))
  by_cases hc_3 : x1 = (3 : Int32)
  · have hf := z_t hc_3 hf
    refine lv_tableIn (tgt := 57) hx hb d_F_told_1 (by rw [hc_3]; decide) (by rw [hc_3]; decide) (by rw [hc_3]; rfl) (by decide) ?_
    refine lv_aload_n hx hb d_F_told_57 rfl (lv_at hl 0 rfl) ?_
    refine gf_F_78 (v := .ref aI) hx hb hts hown hK hP hN_O rfl d_F_told_58 ?_
    obtain ⟨q112, hc, hf⟩ := z_b hf
    refine vp_callSi (z_cr (va_runV (As := []) (rest := []) ⟨hx, hb, hml, hown, hts⟩ (c_B_bytes l dC dI cI cL hN_I q112 hc) (cw_F_146 hts hZ ⟨Nat.le_of_ble_eq_true rfl, Nat.le_of_ble_eq_true rfl⟩) ⟨zbR, va_recv hK hP (ci := 6) rfl hN_I, (zpR hP hK hZ)⟩ rfl rfl hl.1 rfl (lv_room (Nat.le_of_ble_eq_true rfl)) d_F_told_61 ⟨Nat.zero_le _, Nat.zero_le _⟩)) (fun r113 hv => ?_)
    have hv := hv.symm
    subst hv
    obtain rfl := Option.some.inj hf
    exact W.iret hx hb hr (fun t ht hW => ⟨_, rfl, rfl, ht⟩) (fun q h => by cases h) d_F_told_64
  have hf := z_f hc_3 hf
  have he_3 : x1.toInt ≠ 3 := fun h => hc_3 (Int32.toInt_inj.mp (h.trans (by decide)))
  by_cases hc_4 : x1 = (4 : Int32)
  · have hf := z_t hc_4 hf
    refine lv_tableIn (tgt := 65) hx hb d_F_told_1 (by rw [hc_4]; decide) (by rw [hc_4]; decide) (by rw [hc_4]; rfl) (by decide) ?_
    refine lv_aload_n hx hb d_F_told_65 rfl (lv_at hl 0 rfl) ?_
    refine gf_F_31 (v := .ref aN) hx hb hts hown hK hP hN_O rfl d_F_told_66 ?_
    refine gf_F_185 (v := .int N_side) hx hb hts hown hK hZ hP hN_N rfl d_F_told_69 ?_
    obtain rfl := Option.some.inj hf
    exact W.iret hx hb hr (fun t ht hW => ⟨_, rfl, rfl, ht⟩) (fun q h => by cases h) d_F_told_72
  have hf := z_f hc_4 hf
  have he_4 : x1.toInt ≠ 4 := fun h => hc_4 (Int32.toInt_inj.mp (h.trans (by decide)))
  refine lv_tableOut (tgt := 73) hx hb d_F_told_1 (by omega) (by decide) ?_
  refine lv_iconst (v := (-1)) hx hb d_F_told_73 (by decide) ?_
  obtain rfl := Option.some.inj hf
  exact W.iret hx hb hr (fun t ht hW => ⟨_, rfl, rfl, ht⟩) (fun q h => by cases h) d_F_told_74
def f_F_tried (S_tried : Int32) : Option (Int32) := some S_tried
set_option maxHeartbeats 4000000 in
set_option maxRecDepth 100000 in
theorem c_F_tried (l : Launch) (dC : Nat → ClassId) (dI : Nat → Nat → Nat) (cI cL : ClassId) {ws : va_W} {aO aP aN aH aV aS aK aT aC aI aW aD aQ aR aE : Nat} {O_side S_tried S_size S_count S_wantedSum S_foundSum S_foundSquares : Int32} (hN_O : ws[0]? = some (aO, .inr (0, [.int O_side, .ref aP, .ref aN, .ref aH, .ref aV, .ref aS, .ref aK, .ref aT, .ref aC, .ref aI]))) (hN_S : ws[8]? = some (aS, .inr (3, [.ref aP, .ref aH, .ref aV, .ref aW, .ref aD, .ref aQ, .ref aR, .ref aE, .int S_tried, .int S_size, .int S_count, .int S_wantedSum, .int S_foundSum, .int S_foundSquares]))) (r : Int32) (hf : f_F_tried S_tried = some r) : Met l y_F_tried w_F_tried rm_F_tried (va_Pc [.ref aO] (zR dC dI cI cL ws)) (vp_Si (fun v => v = r)) 0 0 (fun _ => False) := by
  refine Met.ofW (cc := b_F_tried) (maxL := 1) (ret := some .int) (by decide) rfl ?_
  intro p e s m args below meth c s₁ B hml hv
  obtain ⟨rfl, hP, hK, hZ⟩ := hv
  have hx := B.exec
  have hb := B.bytes
  have hr := B.returns
  have hlocks := B.notSynchronized
  have hts : ∀ w ∈ BIG, w.before ([.ref aO] : List Value).toArray s = true := fun w h => atoms_spec (ws := w_F_tried) B.pre w (List.mem_cons_of_mem _ h)
  have hown : s.vm.findClass "FractalMaps" = some m.cls := findClass_of_methodNamed B.named
  have hl := lv_entry ([.ref aO]) (n := 1) (Nat.le_of_ble_eq_true rfl)
  rw [lg_entry_eq]
  generalize (lg_sl ([.ref aO]) ++ List.replicate (1 - (lg_sl ([.ref aO])).length) Slot.unset).toArray = ls at hl ⊢
  have hl : lv_has ls 1 [(0, .ref aO)] := hl
  unfold f_F_tried at hf
  refine lv_aload_n hx hb d_F_tried_0 rfl (lv_at hl 0 rfl) ?_
  refine gf_F_51 (v := .ref aS) hx hb hts hown hK hP hN_O rfl d_F_tried_1 ?_
  refine gf_F_212 (v := .int S_tried) hx hb hts hown hK hZ hP hN_S rfl d_F_tried_4 ?_
  obtain rfl := Option.some.inj hf
  exact W.iret hx hb hr (fun t ht hW => ⟨_, rfl, rfl, ht⟩) (fun q h => by cases h) d_F_tried_7
def f_M_thrown (X_code : Int32) : Option (Int32) := some X_code
set_option maxHeartbeats 4000000 in
set_option maxRecDepth 100000 in
theorem c_M_thrown (l : Launch) (dC : Nat → ClassId) (dI : Nat → Nat → Nat) (cI cL : ClassId) {ws : va_W} {aX aXpicture aXhalf aXblocks aXencoded aXfed aXpile aXnews aXolds aXhalves aXds aXrs aXbest : Nat} {X_code X_side X_many X_found X_encodedBits X_fedMany X_readAt X_why X_tried X_waiting X_decoded : Int32} {X_bestError : Int64} (hN_X : ws[21]? = some (aX, .inr (7, [.int X_code, .int X_side, .ref aXpicture, .ref aXhalf, .int X_many, .ref aXblocks, .int X_found, .int X_encodedBits, .ref aXencoded, .int X_fedMany, .ref aXfed, .int X_readAt, .int X_why, .int X_tried, .int X_waiting, .ref aXpile, .int X_decoded, .ref aXnews, .ref aXolds, .ref aXhalves, .ref aXds, .ref aXrs, .ref aXbest, .long X_bestError]))) (r : Int32) (hf : f_M_thrown X_code = some r) : Met l y_M_thrown w_M_thrown rm_M_thrown (va_Pc [.ref aX] (zR dC dI cI cL ws)) (vp_Si (fun v => v = r)) 0 0 (fun _ => False) := by
  refine Met.ofW (cc := b_M_thrown) (maxL := 1) (ret := some .int) (by decide) rfl ?_
  intro p e s m args below meth c s₁ B hml hv
  obtain ⟨rfl, hP, hK, hZ⟩ := hv
  have hx := B.exec
  have hb := B.bytes
  have hr := B.returns
  have hlocks := B.notSynchronized
  have hts : ∀ w ∈ BIG, w.before ([.ref aX] : List Value).toArray s = true := fun w h => atoms_spec (ws := w_M_thrown) B.pre w (List.mem_cons_of_mem _ h)
  have hown : s.vm.findClass "FractalMapsModel" = some m.cls := findClass_of_methodNamed B.named
  have hl := lv_entry ([.ref aX]) (n := 1) (Nat.le_of_ble_eq_true rfl)
  rw [lg_entry_eq]
  generalize (lg_sl ([.ref aX]) ++ List.replicate (1 - (lg_sl ([.ref aX])).length) Slot.unset).toArray = ls at hl ⊢
  have hl : lv_has ls 1 [(0, .ref aX)] := hl
  unfold f_M_thrown at hf
  refine lv_aload_n hx hb d_M_thrown_0 rfl (lv_at hl 0 rfl) ?_
  refine gf_M_50 (v := .int X_code) hx hb hts hown hK hP hN_X rfl d_M_thrown_1 ?_
  obtain rfl := Option.some.inj hf
  exact W.iret hx hb hr (fun t ht hW => ⟨_, rfl, rfl, ht⟩) (fun q h => by cases h) d_M_thrown_4
def f_M_in (x1 : Int64) (x2 : Int64) (x3 : Int64) : Option (Int32) := if (lg_cmp x1 x2) < 0 then (some (0 : Int32)) else (if 0 < (lg_cmp x1 x3) then (some (0 : Int32)) else (some (1 : Int32)))
set_option maxHeartbeats 4000000 in
set_option maxRecDepth 100000 in
theorem c_M_in (l : Launch) (x1 : Int64) (x2 : Int64) (x3 : Int64) (r : Int32) (hf : f_M_in x1 x2 x3 = some r) : Met l y_M_in w_M_in rm_M_in (va_Pc [.long x1, .long x2, .long x3] (fun _ => True)) (vp_Si (fun v => v = r)) 0 0 (fun _ => False) := by
  refine Met.ofW (cc := b_M_in) (maxL := 6) (ret := some .boolean) (by decide) rfl ?_
  intro p e s m args below meth c s₁ B hml hv
  obtain ⟨rfl, -⟩ := hv
  have hx := B.exec
  have hb := B.bytes
  have hr := B.returns
  have hlocks := B.notSynchronized
  have hts : ∀ w ∈ BIG, w.before ([.long x1, .long x2, .long x3] : List Value).toArray s = true := fun w h => atoms_spec (ws := w_M_in) B.pre w (List.mem_cons_of_mem _ h)
  have hown : s.vm.findClass "FractalMapsModel" = some m.cls := findClass_of_methodNamed B.named
  have hl := lv_entry ([.long x1, .long x2, .long x3]) (n := 6) (Nat.le_of_ble_eq_true rfl)
  rw [lg_entry_eq]
  generalize (lg_sl ([.long x1, .long x2, .long x3]) ++ List.replicate (6 - (lg_sl ([.long x1, .long x2, .long x3])).length) Slot.unset).toArray = ls at hl ⊢
  have hl : lv_has ls 6 [(0, .long x1), (2, .long x2), (4, .long x3)] := hl
  unfold f_M_in at hf
  refine lv_lload_n hx hb d_M_in_0 rfl (lv_at hl 0 rfl) ?_
  refine lv_lload_n hx hb d_M_in_1 rfl (lv_at hl 1 rfl) ?_
  refine W.lcmp hx hb d_M_in_2 ?_
  refine lv_if_lt (tgt := 17) hx hb d_M_in_3 (by decide) (fun hc => ?_) (fun hc => ?_)
  · have hf := z_t hc hf
    refine lv_iconst (v := 0) hx hb d_M_in_17 (by decide) ?_
    obtain rfl := Option.some.inj hf
    exact W.zret (ty := .boolean) hx hb hr (by decide) (fun t ht hW => ⟨_, rfl, rfl, ht⟩) (fun q h => by cases h) d_M_in_18
  · have hf := z_f hc hf
    refine lv_lload_n hx hb d_M_in_6 rfl (lv_at hl 0 rfl) ?_
    refine lv_lload hx hb d_M_in_7 (lv_at hl 2 rfl) ?_
    refine W.lcmp hx hb d_M_in_9 ?_
    refine lv_if_gt (tgt := 17) hx hb d_M_in_10 (by decide) (fun hc => ?_) (fun hc => ?_)
    · have hf := z_t hc hf
      refine lv_iconst (v := 0) hx hb d_M_in_17 (by decide) ?_
      obtain rfl := Option.some.inj hf
      exact W.zret (ty := .boolean) hx hb hr (by decide) (fun t ht hW => ⟨_, rfl, rfl, ht⟩) (fun q h => by cases h) d_M_in_18
    · have hf := z_f hc hf
      refine lv_iconst (v := 1) hx hb d_M_in_13 (by decide) ?_
      refine lv_goto (tgt := 18) hx hb d_M_in_14 (by decide) ?_
      obtain rfl := Option.some.inj hf
      exact W.zret (ty := .boolean) hx hb hr (by decide) (fun t ht hW => ⟨_, rfl, rfl, ht⟩) (fun q h => by cases h) d_M_in_18
def f_M_isPlace (x1 : Int32) (x2 : Int32) (X_side : Int32) : Option (Int32) := (f_M_in x1.toInt64 (0 : Int64) ((X_side - (1 : Int32)).toInt64)).bind (fun q114 => if q114 = 0 then (some (0 : Int32)) else ((f_M_in x2.toInt64 (0 : Int64) ((X_side - (1 : Int32)).toInt64)).bind (fun q116 => if q116 = 0 then (some (0 : Int32)) else (some (1 : Int32)))))
set_option maxHeartbeats 4000000 in
set_option maxRecDepth 100000 in
theorem c_M_isPlace (l : Launch) (dC : Nat → ClassId) (dI : Nat → Nat → Nat) (cI cL : ClassId) {ws : va_W} {aX aXpicture aXhalf aXblocks aXencoded aXfed aXpile aXnews aXolds aXhalves aXds aXrs aXbest : Nat} {X_code X_side X_many X_found X_encodedBits X_fedMany X_readAt X_why X_tried X_waiting X_decoded : Int32} {X_bestError : Int64} (x1 : Int32) (x2 : Int32) (hN_X : ws[21]? = some (aX, .inr (7, [.int X_code, .int X_side, .ref aXpicture, .ref aXhalf, .int X_many, .ref aXblocks, .int X_found, .int X_encodedBits, .ref aXencoded, .int X_fedMany, .ref aXfed, .int X_readAt, .int X_why, .int X_tried, .int X_waiting, .ref aXpile, .int X_decoded, .ref aXnews, .ref aXolds, .ref aXhalves, .ref aXds, .ref aXrs, .ref aXbest, .long X_bestError]))) (r : Int32) (hf : f_M_isPlace x1 x2 X_side = some r) : Met l y_M_isPlace w_M_isPlace rm_M_isPlace (va_Pc [.ref aX, .int x1, .int x2] (zR dC dI cI cL ws)) (vp_Si (fun v => v = r)) 0 0 (fun _ => False) := by
  refine Met.ofW (cc := b_M_isPlace) (maxL := 3) (ret := some .boolean) (by decide) rfl ?_
  intro p e s m args below meth c s₁ B hml hv
  obtain ⟨rfl, hP, hK, hZ⟩ := hv
  have hx := B.exec
  have hb := B.bytes
  have hr := B.returns
  have hlocks := B.notSynchronized
  have hts : ∀ w ∈ BIG, w.before ([.ref aX, .int x1, .int x2] : List Value).toArray s = true := fun w h => atoms_spec (ws := w_M_isPlace) B.pre w (List.mem_cons_of_mem _ h)
  have hown : s.vm.findClass "FractalMapsModel" = some m.cls := findClass_of_methodNamed B.named
  have hl := lv_entry ([.ref aX, .int x1, .int x2]) (n := 3) (Nat.le_of_ble_eq_true rfl)
  rw [lg_entry_eq]
  generalize (lg_sl ([.ref aX, .int x1, .int x2]) ++ List.replicate (3 - (lg_sl ([.ref aX, .int x1, .int x2])).length) Slot.unset).toArray = ls at hl ⊢
  have hl : lv_has ls 3 [(0, .ref aX), (1, .int x1), (2, .int x2)] := hl
  unfold f_M_isPlace at hf
  refine lv_iload_n hx hb d_M_isPlace_0 rfl (lv_at hl 1 rfl) ?_
  refine lv_i2l hx hb d_M_isPlace_1 rfl ?_
  refine lv_lconst (v := 0) hx hb d_M_isPlace_2 (by decide) ?_
  refine lv_aload_n hx hb d_M_isPlace_3 rfl (lv_at hl 0 rfl) ?_
  refine gf_M_46 (v := .int X_side) hx hb hts hown hK hP hN_X rfl d_M_isPlace_4 ?_
  refine lv_iconst (v := 1) hx hb d_M_isPlace_7 (by decide) ?_
  refine lv_isub hx hb d_M_isPlace_8 ?_
  refine lv_i2l hx hb d_M_isPlace_9 rfl ?_
  obtain ⟨q114, hc, hf⟩ := z_b hf
  refine vp_callSi (z_cr (va_runS (As := [.long x1.toInt64, .long (0 : Int64), .long ((X_side - (1 : Int32)).toInt64)]) (rest := []) ⟨hx, hb, hml, hown, hts⟩ (c_M_in l x1.toInt64 (0 : Int64) ((X_side - (1 : Int32)).toInt64) q114 hc) (cw_M_55 hts ⟨Nat.le_of_ble_eq_true rfl, Nat.le_of_ble_eq_true rfl⟩) ⟨zb0, zp0⟩ rfl rfl hl.1 rfl (lv_room (Nat.le_of_ble_eq_true rfl)) d_M_isPlace_10 ⟨Nat.zero_le _, Nat.zero_le _⟩)) (fun r115 hv => ?_)
  have hv := hv.symm
  subst hv
  refine lv_if_eq (tgt := 36) hx hb d_M_isPlace_13 (by decide) (fun hc => ?_) (fun hc => ?_)
  · have hf := z_t hc hf
    refine lv_iconst (v := 0) hx hb d_M_isPlace_36 (by decide) ?_
    obtain rfl := Option.some.inj hf
    exact W.zret (ty := .boolean) hx hb hr (by decide) (fun t ht hW => ⟨_, rfl, rfl, ht⟩) (fun q h => by cases h) d_M_isPlace_37
  · have hf := z_f hc hf
    refine lv_iload_n hx hb d_M_isPlace_16 rfl (lv_at hl 2 rfl) ?_
    refine lv_i2l hx hb d_M_isPlace_17 rfl ?_
    refine lv_lconst (v := 0) hx hb d_M_isPlace_18 (by decide) ?_
    refine lv_aload_n hx hb d_M_isPlace_19 rfl (lv_at hl 0 rfl) ?_
    refine gf_M_46 (v := .int X_side) hx hb hts hown hK hP hN_X rfl d_M_isPlace_20 ?_
    refine lv_iconst (v := 1) hx hb d_M_isPlace_23 (by decide) ?_
    refine lv_isub hx hb d_M_isPlace_24 ?_
    refine lv_i2l hx hb d_M_isPlace_25 rfl ?_
    obtain ⟨q116, hc, hf⟩ := z_b hf
    refine vp_callSi (z_cr (va_runS (As := [.long x2.toInt64, .long (0 : Int64), .long ((X_side - (1 : Int32)).toInt64)]) (rest := []) ⟨hx, hb, hml, hown, hts⟩ (c_M_in l x2.toInt64 (0 : Int64) ((X_side - (1 : Int32)).toInt64) q116 hc) (cw_M_55 hts ⟨Nat.le_of_ble_eq_true rfl, Nat.le_of_ble_eq_true rfl⟩) ⟨zb0, zp0⟩ rfl rfl hl.1 rfl (lv_room (Nat.le_of_ble_eq_true rfl)) d_M_isPlace_26 ⟨Nat.zero_le _, Nat.zero_le _⟩)) (fun r117 hv => ?_)
    have hv := hv.symm
    subst hv
    refine lv_if_eq (tgt := 36) hx hb d_M_isPlace_29 (by decide) (fun hc => ?_) (fun hc => ?_)
    · have hf := z_t hc hf
      refine lv_iconst (v := 0) hx hb d_M_isPlace_36 (by decide) ?_
      obtain rfl := Option.some.inj hf
      exact W.zret (ty := .boolean) hx hb hr (by decide) (fun t ht hW => ⟨_, rfl, rfl, ht⟩) (fun q h => by cases h) d_M_isPlace_37
    · have hf := z_f hc hf
      refine lv_iconst (v := 1) hx hb d_M_isPlace_32 (by decide) ?_
      refine lv_goto (tgt := 37) hx hb d_M_isPlace_33 (by decide) ?_
      obtain rfl := Option.some.inj hf
      exact W.zret (ty := .boolean) hx hb hr (by decide) (fun t ht hW => ⟨_, rfl, rfl, ht⟩) (fun q h => by cases h) d_M_isPlace_37
