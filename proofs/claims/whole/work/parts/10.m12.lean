def f_F_readWaiting (x1 : Int32) (O_side : Int32) (K_count : Int32) (KA_n : Nat) (KA_f : Nat → Int32) (T_domain : Int32) (T_turn : Int32) (T_contrast : Int32) (T_offset : Int32) (T_error : Int32) (I_filled : Int32) (I_taken : Int32) (IA_n : Nat) (IA_f : Nat → Int32) : Option (Int32 × Int32 × (Nat → Int32) × Int32 × Int32 × Int32 × Int32 × Int32 × Int32) := (f_B_rewind).bind (fun q524 => (f_B_take (3 : Int32) I_filled q524 IA_n IA_f).bind (fun q525 => if q525.1 = ((-1) : Int32) then (some ((3 : Int32), K_count, KA_f, T_domain, T_turn, T_contrast, T_offset, T_error, q525.2)) else ((f_F_isSize ((1 : Int32) <<< (q525.1 &&& 31))).bind (fun q526 => if q526 = 0 then (some ((0 : Int32), K_count, KA_f, T_domain, T_turn, T_contrast, T_offset, T_error, q525.2)) else (if ((1 : Int32) <<< (q525.1 &&& 31)) ≤ (O_side / (2 : Int32)) then ((f_F_readQuarters 6 (0 : Int32) (0 : Int32) (O_side / (2 : Int32)) ((1 : Int32) <<< (q525.1 &&& 31)) x1 O_side K_count KA_n KA_f T_domain T_turn T_contrast T_offset T_error I_filled q525.2 IA_n IA_f).bind (fun q528 => if q528.1 = ((-1) : Int32) then ((f_B_restIsFilling I_filled q528.2.2.2.2.2.2.2.2 IA_n IA_f).bind (fun q529 => if q529 = 0 then (some ((4 : Int32), q528.2.1, q528.2.2.1, q528.2.2.2.1, q528.2.2.2.2.1, q528.2.2.2.2.2.1, q528.2.2.2.2.2.2.1, q528.2.2.2.2.2.2.2.1, q528.2.2.2.2.2.2.2.2)) else (some (((-1) : Int32), q528.2.1, q528.2.2.1, q528.2.2.2.1, q528.2.2.2.2.1, q528.2.2.2.2.2.1, q528.2.2.2.2.2.2.1, q528.2.2.2.2.2.2.2.1, q528.2.2.2.2.2.2.2.2)))) else (some (q528.1, q528.2.1, q528.2.2.1, q528.2.2.2.1, q528.2.2.2.2.1, q528.2.2.2.2.2.1, q528.2.2.2.2.2.2.1, q528.2.2.2.2.2.2.2.1, q528.2.2.2.2.2.2.2.2)))) else (some ((0 : Int32), K_count, KA_f, T_domain, T_turn, T_contrast, T_offset, T_error, q525.2)))))))
set_option maxHeartbeats 4000000 in
set_option maxRecDepth 100000 in
theorem c_F_readWaiting (l : Launch) (dC : Nat → ClassId) (dI : Nat → Nat → Nat) (cI cL : ClassId) {ws0 : va_W} (sz : Nat) {aO aP aN aH aV aS aK aT aC aI aKA aIA : Nat} {O_side K_count T_domain T_turn T_contrast T_offset T_error I_filled I_taken : Int32} {KA_n IA_n : Nat} {KA_f IA_f : Nat → Int32} (x1 : Int32) (hN_O : zA ws0 0 (aO, .inr (0, [.int O_side, .ref aP, .ref aN, .ref aH, .ref aV, .ref aS, .ref aK, .ref aT, .ref aC, .ref aI]))) (hN_K : zA ws0 14 (aK, .inr (5, [.ref aKA, .int K_count]))) (hN_KA : zA ws0 15 (aKA, .inl (cI, KA_n, .inl KA_f))) (hN_T : zA ws0 16 (aT, .inr (4, [.int T_domain, .int T_turn, .int T_contrast, .int T_offset, .int T_error]))) (hN_I : zA ws0 19 (aI, .inr (6, [.ref aIA, .int I_filled, .int I_taken]))) (hN_IA : zA ws0 20 (aIA, .inl (cI, IA_n, .inl IA_f))) (r : Int32 × Int32 × (Nat → Int32) × Int32 × Int32 × Int32 × Int32 × Int32 × Int32) (hf : f_F_readWaiting x1 O_side K_count KA_n KA_f T_domain T_turn T_contrast T_offset T_error I_filled I_taken IA_n IA_f = some r) : Met l y_F_readWaiting w_F_readWaiting rm_F_readWaiting (va_Pc [.ref aO, .int x1] (zM dC dI cI cL ws0 sz)) (va_Qi (fun (v : Int32) (ws' : va_W) => v = r.1 ∧ zA ws' 14 (aK, .inr (5, [.ref aKA, .int r.2.1])) ∧ zA ws' 15 (aKA, .inl (cI, KA_n, .inl r.2.2.1)) ∧ zA ws' 16 (aT, .inr (4, [.int r.2.2.2.1, .int r.2.2.2.2.1, .int r.2.2.2.2.2.1, .int r.2.2.2.2.2.2.1, .int r.2.2.2.2.2.2.2.1])) ∧ zA ws' 19 (aI, .inr (6, [.ref aIA, .int I_filled, .int r.2.2.2.2.2.2.2.2])) ∧ ∀ (j : Nat), j ∉ ([14, 15, 16, 19] : List Nat) → ws'[j]? = ws0[j]?) (zQ dC dI cI cL (va_A ws0 sz)) (va_A ws0 sz)) 0 0 (va_A ws0 sz) := by
  refine Met.ofW (cc := b_F_readWaiting) (maxL := 5) (ret := some .int) (by decide) rfl ?_
  intro p e s m args below meth c s₁ B hml hv
  obtain ⟨rfl, hsz, hP, hK, hZ, hD0⟩ := hv
  have hx := B.exec
  have hb := B.bytes
  have hr := B.returns
  have hlocks := B.notSynchronized
  have hts : ∀ w ∈ BIG, w.before ([.ref aO, .int x1] : List Value).toArray s = true := fun w h => atoms_spec (ws := w_F_readWaiting) B.pre w (List.mem_cons_of_mem _ h)
  have hown : s.vm.findClass "FractalMaps" = some m.cls := findClass_of_methodNamed B.named
  subst hsz
  have hD := hD0.self (sz := s.heap.size)
  generalize hAe : va_A ws0 s.heap.size = A at hD ⊢
  have hA : ∀ q : Nat, s.heap.size ≤ q → A q := fun q h => by rw [← hAe]; exact Or.inr h
  have hS : va_S A s.heap s.heap [] := va_S.rf
  have hw : ∀ (j : Nat), j ∉ ([14, 15, 16, 19] : List Nat) → ws0[j]? = ws0[j]? := fun _ _ => rfl
  have hl := lv_entry ([.ref aO, .int x1]) (n := 5) (Nat.le_of_ble_eq_true rfl)
  rw [lg_entry_eq]
  generalize (lg_sl ([.ref aO, .int x1]) ++ List.replicate (5 - (lg_sl ([.ref aO, .int x1])).length) Slot.unset).toArray = ls at hl ⊢
  have hl : lv_has ls 5 [(0, .ref aO), (1, .int x1)] := hl
  unfold f_F_readWaiting at hf
  refine lv_aload_n hx hb d_F_readWaiting_0 rfl (lv_at hl 0 rfl) ?_
  refine gf_F_78 (v := .ref aI) hx hb hts hown hK hP hN_O rfl d_F_readWaiting_1 ?_
  obtain ⟨q524, hc, hf⟩ := z_b hf
  have hFc := z_free hD hS hA
  refine va_callv (va_runV (As := []) (rest := []) ⟨hx, hb, hml, hown, hts⟩ (c_B_rewind l dC dI cI cL _ hN_I q524 hc) (cw_F_256 hts ⟨Nat.le_of_ble_eq_true rfl, Nat.le_of_ble_eq_true rfl⟩) ⟨zbM, va_recv hK hP (ci := 6) rfl hN_I, (zpM hP hK hZ hD)⟩ rfl rfl hl.1 rfl (lv_room (Nat.le_of_ble_eq_true rfl)) d_F_readWaiting_4 ⟨Nat.zero_le _, Nat.zero_le _⟩) hS (fun q _ h => hFc q h) hFc (fun ws t H locs ht hvm hu hB hz1 hk1 hS => ?_)
  obtain ⟨hN_I, hfr⟩ := hu
  obtain ⟨hP, -, hD1⟩ := hB
  rw [ht] at hP
  have hD := hD1.weaken (fun _ _ _ h => hFc _ h)
  have hN_I : zA ws 19 (aI, .inr (6, [.ref aIA, .int I_filled, .int q524])) := hN_I
  have hN_O := (hfr _ (by decide)).trans hN_O
  have hN_K := (hfr _ (by decide)).trans hN_K
  have hN_KA := (hfr _ (by decide)).trans hN_KA
  have hN_T := (hfr _ (by decide)).trans hN_T
  have hN_IA := (hfr _ (by decide)).trans hN_IA
  have hw := z_frC (by decide) hw hfr
  refine lv_aload_n hx hb d_F_readWaiting_7 rfl (lv_at hl 0 rfl) ?_
  refine gf_F_78 (v := .ref aI) hx hb hts hown hK hP hN_O rfl d_F_readWaiting_8 ?_
  refine lv_iconst (v := 3) hx hb d_F_readWaiting_11 (by decide) ?_
  obtain ⟨q525, hc, hf⟩ := z_b hf
  have hFc := z_free hD hS hA
  refine va_calli (va_runV (As := [.int (3 : Int32)]) (rest := []) ⟨hx, hb, hml, hown, hts⟩ (c_B_take l dC dI cI cL _ (3 : Int32) hN_I hN_IA (by decide) q525 hc) (cw_F_259 hts ⟨Nat.le_of_ble_eq_true rfl, Nat.le_of_ble_eq_true rfl⟩) ⟨zbM, va_recv hK hP (ci := 6) rfl hN_I, (zpM hP hK hZ hD)⟩ rfl rfl hl.1 rfl (lv_room (Nat.le_of_ble_eq_true rfl)) d_F_readWaiting_12 ⟨Nat.zero_le _, Nat.zero_le _⟩) hS (fun q _ h => hFc q h) hFc (fun rv ws t H locs ht hvm hu hB hz1 hk1 hS => ?_)
  obtain ⟨hv, hN_I, hfr⟩ := hu
  subst hv
  obtain ⟨hP, -, hD1⟩ := hB
  rw [ht] at hP
  have hD := hD1.weaken (fun _ _ _ h => hFc _ h)
  have hN_I : zA ws 19 (aI, .inr (6, [.ref aIA, .int I_filled, .int q525.2])) := hN_I
  have hN_O := (hfr _ (by decide)).trans hN_O
  have hN_K := (hfr _ (by decide)).trans hN_K
  have hN_KA := (hfr _ (by decide)).trans hN_KA
  have hN_T := (hfr _ (by decide)).trans hN_T
  have hN_IA := (hfr _ (by decide)).trans hN_IA
  have hw := z_frC (by decide) hw hfr
  refine lv_istore_n (lv' := [(2, .int q525.1), (0, .ref aO), (1, .int x1)]) hx hb d_F_readWaiting_15 rfl hl (by decide) rfl (fun ls hl => ?_)
  refine lv_iload_n hx hb d_F_readWaiting_16 rfl (lv_at hl 0 rfl) ?_
  refine lv_iconst (v := (-1)) hx hb d_F_readWaiting_17 (by decide) ?_
  refine lv_icmp_ne (tgt := 23) hx hb d_F_readWaiting_18 (by decide) (fun hc => ?_) (fun hc => ?_)
  · have hf := z_f hc hf
    refine lv_iconst (v := 1) hx hb d_F_readWaiting_23 (by decide) ?_
    refine lv_iload_n hx hb d_F_readWaiting_24 rfl (lv_at hl 0 rfl) ?_
    refine lv_ishl hx hb d_F_readWaiting_25 ?_
    refine lv_istore_n (lv' := [(3, .int ((1 : Int32) <<< (q525.1 &&& 31))), (2, .int q525.1), (0, .ref aO), (1, .int x1)]) hx hb d_F_readWaiting_26 rfl hl (by decide) rfl (fun ls hl => ?_)
    refine lv_iload_n hx hb d_F_readWaiting_27 rfl (lv_at hl 0 rfl) ?_
    obtain ⟨q526, hc, hf⟩ := z_b hf
    refine vp_callSi (z_cr (va_runS (As := [.int ((1 : Int32) <<< (q525.1 &&& 31))]) (rest := []) ⟨hx, hb, hml, hown, hts⟩ (c_F_isSize l ((1 : Int32) <<< (q525.1 &&& 31)) q526 hc) (cw_F_110 hts ⟨Nat.le_of_ble_eq_true rfl, Nat.le_of_ble_eq_true rfl⟩) ⟨zb0, zp0⟩ rfl rfl hl.1 rfl (lv_room (Nat.le_of_ble_eq_true rfl)) d_F_readWaiting_28 ⟨Nat.zero_le _, Nat.zero_le _⟩)) (fun r527 hv => ?_)
    have hv := hv.symm
    subst hv
    refine lv_if_eq (tgt := 44) hx hb d_F_readWaiting_31 (by decide) (fun hc => ?_) (fun hc => ?_)
    · have hf := z_t hc hf
      refine lv_iconst (v := 0) hx hb d_F_readWaiting_44 (by decide) ?_
      obtain rfl := Option.some.inj hf
      exact W.iret hx hb hr (fun t ht hW => ⟨⟨_, ws, rfl, (by dsimp only; exact ⟨rfl, hN_K, hN_KA, hN_T, hN_I, hw⟩), by rw [ht]; exact hP, va_K.moved hW.alike hK, hD⟩, hS.F ht⟩) hS.2.2 d_F_readWaiting_45
    · have hf := z_f hc hf
      refine lv_iload_n hx hb d_F_readWaiting_34 rfl (lv_at hl 0 rfl) ?_
      refine lv_aload_n hx hb d_F_readWaiting_35 rfl (lv_at hl 2 rfl) ?_
      refine gf_F_16 (v := .int O_side) hx hb hts hown hK hP hN_O rfl d_F_readWaiting_36 ?_
      refine lv_iconst (v := 2) hx hb d_F_readWaiting_39 (by decide) ?_
      refine lv_idiv hx hb d_F_readWaiting_40 (by decide) ?_
      refine lv_icmp_le (tgt := 46) hx hb d_F_readWaiting_41 (by decide) (fun hc => ?_) (fun hc => ?_)
      · have hf := z_t hc hf
        refine lv_aload_n hx hb d_F_readWaiting_46 rfl (lv_at hl 2 rfl) ?_
        refine lv_iconst (v := 0) hx hb d_F_readWaiting_47 (by decide) ?_
        refine lv_iconst (v := 0) hx hb d_F_readWaiting_48 (by decide) ?_
        refine lv_aload_n hx hb d_F_readWaiting_49 rfl (lv_at hl 2 rfl) ?_
        refine gf_F_16 (v := .int O_side) hx hb hts hown hK hP hN_O rfl d_F_readWaiting_50 ?_
        refine lv_iconst (v := 2) hx hb d_F_readWaiting_53 (by decide) ?_
        refine lv_idiv hx hb d_F_readWaiting_54 (by decide) ?_
        refine lv_iload_n hx hb d_F_readWaiting_55 rfl (lv_at hl 0 rfl) ?_
        refine lv_iload_n hx hb d_F_readWaiting_56 rfl (lv_at hl 3 rfl) ?_
        obtain ⟨q528, hc, hf⟩ := z_b hf
        have hFc := z_free hD hS hA
        refine va_calli (va_runV (As := [.int (0 : Int32), .int (0 : Int32), .int (O_side / (2 : Int32)), .int ((1 : Int32) <<< (q525.1 &&& 31)), .int x1]) (rest := []) ⟨hx, hb, hml, hown, hts⟩ (c_F_readQuarters l 6 dC dI cI cL _ (0 : Int32) (0 : Int32) (O_side / (2 : Int32)) ((1 : Int32) <<< (q525.1 &&& 31)) x1 hN_O hN_K hN_KA hN_T hN_I hN_IA q528 hc) (cw_F_262 6 hts ⟨Nat.le_of_ble_eq_true rfl, Nat.le_of_ble_eq_true rfl⟩) ⟨zbM, va_recv hK hP (ci := 0) rfl hN_O, (zpM hP hK hZ hD)⟩ rfl rfl hl.1 rfl (lv_room (Nat.le_of_ble_eq_true rfl)) d_F_readWaiting_57 ⟨Nat.zero_le _, Nat.zero_le _⟩) hS (fun q _ h => hFc q h) hFc (fun rv ws t H locs ht hvm hu hB hz1 hk1 hS => ?_)
        obtain ⟨hv, hN_K, hN_KA, hN_T, hN_I, hfr⟩ := hu
        subst hv
        obtain ⟨hP, -, hD1⟩ := hB
        rw [ht] at hP
        have hD := hD1.weaken (fun _ _ _ h => hFc _ h)
        have hN_K : zA ws 14 (aK, .inr (5, [.ref aKA, .int q528.2.1])) := hN_K
        have hN_KA : zA ws 15 (aKA, .inl (cI, KA_n, .inl q528.2.2.1)) := hN_KA
        have hN_T : zA ws 16 (aT, .inr (4, [.int q528.2.2.2.1, .int q528.2.2.2.2.1, .int q528.2.2.2.2.2.1, .int q528.2.2.2.2.2.2.1, .int q528.2.2.2.2.2.2.2.1])) := hN_T
        have hN_I : zA ws 19 (aI, .inr (6, [.ref aIA, .int I_filled, .int q528.2.2.2.2.2.2.2.2])) := hN_I
        have hN_O := (hfr _ (by decide)).trans hN_O
        have hN_IA := (hfr _ (by decide)).trans hN_IA
        have hw := z_frC (by decide) hw hfr
        refine lv_istore (lv' := [(4, .int q528.1), (3, .int ((1 : Int32) <<< (q525.1 &&& 31))), (2, .int q525.1), (0, .ref aO), (1, .int x1)]) hx hb d_F_readWaiting_60 hl (by decide) rfl (fun ls hl => ?_)
        refine lv_iload hx hb d_F_readWaiting_62 (lv_at hl 0 rfl) ?_
        refine lv_iconst (v := (-1)) hx hb d_F_readWaiting_64 (by decide) ?_
        refine lv_icmp_eq (tgt := 71) hx hb d_F_readWaiting_65 (by decide) (fun hc => ?_) (fun hc => ?_)
        · have hf := z_t hc hf
          refine lv_aload_n hx hb d_F_readWaiting_71 rfl (lv_at hl 3 rfl) ?_
          refine gf_F_78 (v := .ref aI) hx hb hts hown hK hP hN_O rfl d_F_readWaiting_72 ?_
          obtain ⟨q529, hc, hf⟩ := z_b hf
          refine vp_callSi (z_cr (va_runV (As := []) (rest := []) ⟨hx, hb, hml, hown, hts⟩ (c_B_restIsFilling l dC dI cI cL hN_I hN_IA q529 hc) (cw_F_266 hts ⟨Nat.le_of_ble_eq_true rfl, Nat.le_of_ble_eq_true rfl⟩) ⟨zbR, va_recv hK hP (ci := 6) rfl hN_I, (zpR hP hK hZ)⟩ rfl rfl hl.1 rfl (lv_room (Nat.le_of_ble_eq_true rfl)) d_F_readWaiting_75 ⟨Nat.zero_le _, Nat.zero_le _⟩)) (fun r530 hv => ?_)
          have hv := hv.symm
          subst hv
          refine lv_if_eq (tgt := 85) hx hb d_F_readWaiting_78 (by decide) (fun hc => ?_) (fun hc => ?_)
          · have hf := z_t hc hf
            refine lv_iconst (v := 4) hx hb d_F_readWaiting_85 (by decide) ?_
            obtain rfl := Option.some.inj hf
            exact W.iret hx hb hr (fun t ht hW => ⟨⟨_, ws, rfl, (by dsimp only; exact ⟨rfl, hN_K, hN_KA, hN_T, hN_I, hw⟩), by rw [ht]; exact hP, va_K.moved hW.alike hK, hD⟩, hS.F ht⟩) hS.2.2 d_F_readWaiting_86
          · have hf := z_f hc hf
            refine lv_iconst (v := (-1)) hx hb d_F_readWaiting_81 (by decide) ?_
            refine lv_goto (tgt := 86) hx hb d_F_readWaiting_82 (by decide) ?_
            obtain rfl := Option.some.inj hf
            exact W.iret hx hb hr (fun t ht hW => ⟨⟨_, ws, rfl, (by dsimp only; exact ⟨rfl, hN_K, hN_KA, hN_T, hN_I, hw⟩), by rw [ht]; exact hP, va_K.moved hW.alike hK, hD⟩, hS.F ht⟩) hS.2.2 d_F_readWaiting_86
        · have hf := z_f hc hf
          refine lv_iload hx hb d_F_readWaiting_68 (lv_at hl 0 rfl) ?_
          obtain rfl := Option.some.inj hf
          exact W.iret hx hb hr (fun t ht hW => ⟨⟨_, ws, rfl, (by dsimp only; exact ⟨rfl, hN_K, hN_KA, hN_T, hN_I, hw⟩), by rw [ht]; exact hP, va_K.moved hW.alike hK, hD⟩, hS.F ht⟩) hS.2.2 d_F_readWaiting_70
      · have hf := z_f hc hf
        refine lv_iconst (v := 0) hx hb d_F_readWaiting_44 (by decide) ?_
        obtain rfl := Option.some.inj hf
        exact W.iret hx hb hr (fun t ht hW => ⟨⟨_, ws, rfl, (by dsimp only; exact ⟨rfl, hN_K, hN_KA, hN_T, hN_I, hw⟩), by rw [ht]; exact hP, va_K.moved hW.alike hK, hD⟩, hS.F ht⟩) hS.2.2 d_F_readWaiting_45
  · have hf := z_t hc hf
    refine lv_iconst (v := 3) hx hb d_F_readWaiting_21 (by decide) ?_
    obtain rfl := Option.some.inj hf
    exact W.iret hx hb hr (fun t ht hW => ⟨⟨_, ws, rfl, (by dsimp only; exact ⟨rfl, hN_K, hN_KA, hN_T, hN_I, hw⟩), by rw [ht]; exact hP, va_K.moved hW.alike hK, hD⟩, hS.F ht⟩) hS.2.2 d_F_readWaiting_22
def f_F_read (O_side : Int32) (K_count : Int32) (KA_n : Nat) (KA_f : Nat → Int32) (T_domain : Int32) (T_turn : Int32) (T_contrast : Int32) (T_offset : Int32) (T_error : Int32) (I_filled : Int32) (I_taken : Int32) (IA_n : Nat) (IA_f : Nat → Int32) : Option (Int32 × Int32 × (Nat → Int32) × Int32 × Int32 × Int32 × Int32 × Int32 × Int32 × Int32) := (f_F_readWaiting (0 : Int32) O_side K_count KA_n KA_f T_domain T_turn T_contrast T_offset T_error I_filled I_taken IA_n IA_f).bind (fun q531 => if q531.1 = ((-1) : Int32) then ((f_K_wipe).bind (fun q533 => (f_F_readWaiting (1 : Int32) O_side q533 KA_n q531.2.2.1 q531.2.2.2.1 q531.2.2.2.2.1 q531.2.2.2.2.2.1 q531.2.2.2.2.2.2.1 q531.2.2.2.2.2.2.2.1 I_filled q531.2.2.2.2.2.2.2.2 IA_n IA_f).bind (fun q534 => (f_B_wipe).bind (fun q535 => if q531.1 = ((-1) : Int32) then (some (q534.2.1, q534.2.1, q534.2.2.1, q534.2.2.2.1, q534.2.2.2.2.1, q534.2.2.2.2.2.1, q534.2.2.2.2.2.2.1, q534.2.2.2.2.2.2.2.1, q535.1, q535.2)) else (some ((((-1) : Int32) - q531.1), q534.2.1, q534.2.2.1, q534.2.2.2.1, q534.2.2.2.2.1, q534.2.2.2.2.2.1, q534.2.2.2.2.2.2.1, q534.2.2.2.2.2.2.2.1, q535.1, q535.2)))))) else ((f_B_wipe).bind (fun q532 => if q531.1 = ((-1) : Int32) then (some (q531.2.1, q531.2.1, q531.2.2.1, q531.2.2.2.1, q531.2.2.2.2.1, q531.2.2.2.2.2.1, q531.2.2.2.2.2.2.1, q531.2.2.2.2.2.2.2.1, q532.1, q532.2)) else (some ((((-1) : Int32) - q531.1), q531.2.1, q531.2.2.1, q531.2.2.2.1, q531.2.2.2.2.1, q531.2.2.2.2.2.1, q531.2.2.2.2.2.2.1, q531.2.2.2.2.2.2.2.1, q532.1, q532.2)))))
set_option maxHeartbeats 4000000 in
set_option maxRecDepth 100000 in
theorem c_F_read (l : Launch) (dC : Nat → ClassId) (dI : Nat → Nat → Nat) (cI cL : ClassId) {ws0 : va_W} (sz : Nat) {aO aP aN aH aV aS aK aT aC aI aKA aIA : Nat} {O_side K_count T_domain T_turn T_contrast T_offset T_error I_filled I_taken : Int32} {KA_n IA_n : Nat} {KA_f IA_f : Nat → Int32} (hN_O : zA ws0 0 (aO, .inr (0, [.int O_side, .ref aP, .ref aN, .ref aH, .ref aV, .ref aS, .ref aK, .ref aT, .ref aC, .ref aI]))) (hN_K : zA ws0 14 (aK, .inr (5, [.ref aKA, .int K_count]))) (hN_KA : zA ws0 15 (aKA, .inl (cI, KA_n, .inl KA_f))) (hN_T : zA ws0 16 (aT, .inr (4, [.int T_domain, .int T_turn, .int T_contrast, .int T_offset, .int T_error]))) (hN_I : zA ws0 19 (aI, .inr (6, [.ref aIA, .int I_filled, .int I_taken]))) (hN_IA : zA ws0 20 (aIA, .inl (cI, IA_n, .inl IA_f))) (r : Int32 × Int32 × (Nat → Int32) × Int32 × Int32 × Int32 × Int32 × Int32 × Int32 × Int32) (hf : f_F_read O_side K_count KA_n KA_f T_domain T_turn T_contrast T_offset T_error I_filled I_taken IA_n IA_f = some r) : Met l y_F_read w_F_read rm_F_read (va_Pc [.ref aO] (zM dC dI cI cL ws0 sz)) (va_Qi (fun (v : Int32) (ws' : va_W) => v = r.1 ∧ zA ws' 14 (aK, .inr (5, [.ref aKA, .int r.2.1])) ∧ zA ws' 15 (aKA, .inl (cI, KA_n, .inl r.2.2.1)) ∧ zA ws' 16 (aT, .inr (4, [.int r.2.2.2.1, .int r.2.2.2.2.1, .int r.2.2.2.2.2.1, .int r.2.2.2.2.2.2.1, .int r.2.2.2.2.2.2.2.1])) ∧ zA ws' 19 (aI, .inr (6, [.ref aIA, .int r.2.2.2.2.2.2.2.2.1, .int r.2.2.2.2.2.2.2.2.2])) ∧ ∀ (j : Nat), j ∉ ([14, 15, 16, 19] : List Nat) → ws'[j]? = ws0[j]?) (zQ dC dI cI cL (va_A ws0 sz)) (va_A ws0 sz)) 0 0 (va_A ws0 sz) := by
  refine Met.ofW (cc := b_F_read) (maxL := 2) (ret := some .int) (by decide) rfl ?_
  intro p e s m args below meth c s₁ B hml hv
  obtain ⟨rfl, hsz, hP, hK, hZ, hD0⟩ := hv
  have hx := B.exec
  have hb := B.bytes
  have hr := B.returns
  have hlocks := B.notSynchronized
  have hts : ∀ w ∈ BIG, w.before ([.ref aO] : List Value).toArray s = true := fun w h => atoms_spec (ws := w_F_read) B.pre w (List.mem_cons_of_mem _ h)
  have hown : s.vm.findClass "FractalMaps" = some m.cls := findClass_of_methodNamed B.named
  subst hsz
  have hD := hD0.self (sz := s.heap.size)
  generalize hAe : va_A ws0 s.heap.size = A at hD ⊢
  have hA : ∀ q : Nat, s.heap.size ≤ q → A q := fun q h => by rw [← hAe]; exact Or.inr h
  have hS : va_S A s.heap s.heap [] := va_S.rf
  have hw : ∀ (j : Nat), j ∉ ([14, 15, 16, 19] : List Nat) → ws0[j]? = ws0[j]? := fun _ _ => rfl
  have hl := lv_entry ([.ref aO]) (n := 2) (Nat.le_of_ble_eq_true rfl)
  rw [lg_entry_eq]
  generalize (lg_sl ([.ref aO]) ++ List.replicate (2 - (lg_sl ([.ref aO])).length) Slot.unset).toArray = ls at hl ⊢
  have hl : lv_has ls 2 [(0, .ref aO)] := hl
  unfold f_F_read at hf
  refine lv_aload_n hx hb d_F_read_0 rfl (lv_at hl 0 rfl) ?_
  refine lv_iconst (v := 0) hx hb d_F_read_1 (by decide) ?_
  obtain ⟨q531, hc, hf⟩ := z_b hf
  have hFc := z_free hD hS hA
  refine va_calli (va_runV (As := [.int (0 : Int32)]) (rest := []) ⟨hx, hb, hml, hown, hts⟩ (c_F_readWaiting l dC dI cI cL _ (0 : Int32) hN_O hN_K hN_KA hN_T hN_I hN_IA q531 hc) (cw_F_164 hts ⟨Nat.le_of_ble_eq_true rfl, Nat.le_of_ble_eq_true rfl⟩) ⟨zbM, va_recv hK hP (ci := 0) rfl hN_O, (zpM hP hK hZ hD)⟩ rfl rfl hl.1 rfl (lv_room (Nat.le_of_ble_eq_true rfl)) d_F_read_2 ⟨Nat.zero_le _, Nat.zero_le _⟩) hS (fun q _ h => hFc q h) hFc (fun rv ws t H locs ht hvm hu hB hz1 hk1 hS => ?_)
  obtain ⟨hv, hN_K, hN_KA, hN_T, hN_I, hfr⟩ := hu
  subst hv
  obtain ⟨hP, -, hD1⟩ := hB
  rw [ht] at hP
  have hD := hD1.weaken (fun _ _ _ h => hFc _ h)
  have hN_K : zA ws 14 (aK, .inr (5, [.ref aKA, .int q531.2.1])) := hN_K
  have hN_KA : zA ws 15 (aKA, .inl (cI, KA_n, .inl q531.2.2.1)) := hN_KA
  have hN_T : zA ws 16 (aT, .inr (4, [.int q531.2.2.2.1, .int q531.2.2.2.2.1, .int q531.2.2.2.2.2.1, .int q531.2.2.2.2.2.2.1, .int q531.2.2.2.2.2.2.2.1])) := hN_T
  have hN_I : zA ws 19 (aI, .inr (6, [.ref aIA, .int I_filled, .int q531.2.2.2.2.2.2.2.2])) := hN_I
  have hN_O := (hfr _ (by decide)).trans hN_O
  have hN_IA := (hfr _ (by decide)).trans hN_IA
  have hw := z_frC (by decide) hw hfr
  refine lv_istore_n (lv' := [(1, .int q531.1), (0, .ref aO)]) hx hb d_F_read_5 rfl hl (by decide) rfl (fun ls hl => ?_)
  refine lv_iload_n hx hb d_F_read_6 rfl (lv_at hl 0 rfl) ?_
  refine lv_iconst (v := (-1)) hx hb d_F_read_7 (by decide) ?_
  refine lv_icmp_ne (tgt := 24) hx hb d_F_read_8 (by decide) (fun hc => ?_) (fun hc => ?_)
  · have hf := z_f hc hf
    refine lv_aload_n hx hb d_F_read_24 rfl (lv_at hl 1 rfl) ?_
    refine gf_F_78 (v := .ref aI) hx hb hts hown hK hP hN_O rfl d_F_read_25 ?_
    obtain ⟨q532, hc, hf⟩ := z_b hf
    have hFc := z_free hD hS hA
    refine va_callv (va_runV (As := []) (rest := []) ⟨hx, hb, hml, hown, hts⟩ (c_B_wipe l dC dI cI cL _ hN_I q532 hc) (cw_F_121 hts ⟨Nat.le_of_ble_eq_true rfl, Nat.le_of_ble_eq_true rfl⟩) ⟨zbM, va_recv hK hP (ci := 6) rfl hN_I, (zpM hP hK hZ hD)⟩ rfl rfl hl.1 rfl (lv_room (Nat.le_of_ble_eq_true rfl)) d_F_read_28 ⟨Nat.zero_le _, Nat.zero_le _⟩) hS (fun q _ h => hFc q h) hFc (fun ws t H locs ht hvm hu hB hz1 hk1 hS => ?_)
    obtain ⟨hN_I, hfr⟩ := hu
    obtain ⟨hP, -, hD1⟩ := hB
    rw [ht] at hP
    have hD := hD1.weaken (fun _ _ _ h => hFc _ h)
    have hN_I : zA ws 19 (aI, .inr (6, [.ref aIA, .int q532.1, .int q532.2])) := hN_I
    have hN_O := (hfr _ (by decide)).trans hN_O
    have hN_K := (hfr _ (by decide)).trans hN_K
    have hN_KA := (hfr _ (by decide)).trans hN_KA
    have hN_T := (hfr _ (by decide)).trans hN_T
    have hN_IA := (hfr _ (by decide)).trans hN_IA
    have hw := z_frC (by decide) hw hfr
    refine lv_iload_n hx hb d_F_read_31 rfl (lv_at hl 0 rfl) ?_
    refine lv_iconst (v := (-1)) hx hb d_F_read_32 (by decide) ?_
    refine lv_icmp_ne (tgt := 46) hx hb d_F_read_33 (by decide) (fun hc => ?_) (fun hc => ?_)
    · have hf := z_f hc hf
      refine lv_iconst (v := (-1)) hx hb d_F_read_46 (by decide) ?_
      refine lv_iload_n hx hb d_F_read_47 rfl (lv_at hl 0 rfl) ?_
      refine lv_isub hx hb d_F_read_48 ?_
      obtain rfl := Option.some.inj hf
      exact W.iret hx hb hr (fun t ht hW => ⟨⟨_, ws, rfl, (by dsimp only; exact ⟨rfl, hN_K, hN_KA, hN_T, hN_I, hw⟩), by rw [ht]; exact hP, va_K.moved hW.alike hK, hD⟩, hS.F ht⟩) hS.2.2 d_F_read_49
    · have hf := z_t hc hf
      refine lv_aload_n hx hb d_F_read_36 rfl (lv_at hl 1 rfl) ?_
      refine gf_F_60 (v := .ref aK) hx hb hts hown hK hP hN_O rfl d_F_read_37 ?_
      refine gf_F_136 (v := .int q531.2.1) hx hb hts hown hK hZ hP hN_K rfl d_F_read_40 ?_
      refine lv_goto (tgt := 49) hx hb d_F_read_43 (by decide) ?_
      obtain rfl := Option.some.inj hf
      exact W.iret hx hb hr (fun t ht hW => ⟨⟨_, ws, rfl, (by dsimp only; exact ⟨rfl, hN_K, hN_KA, hN_T, hN_I, hw⟩), by rw [ht]; exact hP, va_K.moved hW.alike hK, hD⟩, hS.F ht⟩) hS.2.2 d_F_read_49
  · have hf := z_t hc hf
    refine lv_aload_n hx hb d_F_read_11 rfl (lv_at hl 1 rfl) ?_
    refine gf_F_60 (v := .ref aK) hx hb hts hown hK hP hN_O rfl d_F_read_12 ?_
    obtain ⟨q533, hc, hf⟩ := z_b hf
    have hFc := z_free hD hS hA
    refine va_callv (va_runV (As := []) (rest := []) ⟨hx, hb, hml, hown, hts⟩ (c_K_wipe l dC dI cI cL _ hN_K q533 hc) (cw_F_118 hts ⟨Nat.le_of_ble_eq_true rfl, Nat.le_of_ble_eq_true rfl⟩) ⟨zbM, va_recv hK hP (ci := 5) rfl hN_K, (zpM hP hK hZ hD)⟩ rfl rfl hl.1 rfl (lv_room (Nat.le_of_ble_eq_true rfl)) d_F_read_15 ⟨Nat.zero_le _, Nat.zero_le _⟩) hS (fun q _ h => hFc q h) hFc (fun ws t H locs ht hvm hu hB hz1 hk1 hS => ?_)
    obtain ⟨hN_K, hfr⟩ := hu
    obtain ⟨hP, -, hD1⟩ := hB
    rw [ht] at hP
    have hD := hD1.weaken (fun _ _ _ h => hFc _ h)
    have hN_K : zA ws 14 (aK, .inr (5, [.ref aKA, .int q533])) := hN_K
    have hN_O := (hfr _ (by decide)).trans hN_O
    have hN_KA := (hfr _ (by decide)).trans hN_KA
    have hN_T := (hfr _ (by decide)).trans hN_T
    have hN_I := (hfr _ (by decide)).trans hN_I
    have hN_IA := (hfr _ (by decide)).trans hN_IA
    have hw := z_frC (by decide) hw hfr
    refine lv_aload_n hx hb d_F_read_18 rfl (lv_at hl 1 rfl) ?_
    refine lv_iconst (v := 1) hx hb d_F_read_19 (by decide) ?_
    obtain ⟨q534, hc, hf⟩ := z_b hf
    have hFc := z_free hD hS hA
    refine va_calli (va_runV (As := [.int (1 : Int32)]) (rest := []) ⟨hx, hb, hml, hown, hts⟩ (c_F_readWaiting l dC dI cI cL _ (1 : Int32) hN_O hN_K hN_KA hN_T hN_I hN_IA q534 hc) (cw_F_164 hts ⟨Nat.le_of_ble_eq_true rfl, Nat.le_of_ble_eq_true rfl⟩) ⟨zbM, va_recv hK hP (ci := 0) rfl hN_O, (zpM hP hK hZ hD)⟩ rfl rfl hl.1 rfl (lv_room (Nat.le_of_ble_eq_true rfl)) d_F_read_20 ⟨Nat.zero_le _, Nat.zero_le _⟩) hS (fun q _ h => hFc q h) hFc (fun rv ws t H locs ht hvm hu hB hz1 hk1 hS => ?_)
    obtain ⟨hv, hN_K, hN_KA, hN_T, hN_I, hfr⟩ := hu
    subst hv
    obtain ⟨hP, -, hD1⟩ := hB
    rw [ht] at hP
    have hD := hD1.weaken (fun _ _ _ h => hFc _ h)
    have hN_K : zA ws 14 (aK, .inr (5, [.ref aKA, .int q534.2.1])) := hN_K
    have hN_KA : zA ws 15 (aKA, .inl (cI, KA_n, .inl q534.2.2.1)) := hN_KA
    have hN_T : zA ws 16 (aT, .inr (4, [.int q534.2.2.2.1, .int q534.2.2.2.2.1, .int q534.2.2.2.2.2.1, .int q534.2.2.2.2.2.2.1, .int q534.2.2.2.2.2.2.2.1])) := hN_T
    have hN_I : zA ws 19 (aI, .inr (6, [.ref aIA, .int I_filled, .int q534.2.2.2.2.2.2.2.2])) := hN_I
    have hN_O := (hfr _ (by decide)).trans hN_O
    have hN_IA := (hfr _ (by decide)).trans hN_IA
    have hw := z_frC (by decide) hw hfr
    refine lv_pop hx hb d_F_read_23 rfl ?_
    refine lv_aload_n hx hb d_F_read_24 rfl (lv_at hl 1 rfl) ?_
    refine gf_F_78 (v := .ref aI) hx hb hts hown hK hP hN_O rfl d_F_read_25 ?_
    obtain ⟨q535, hc, hf⟩ := z_b hf
    have hFc := z_free hD hS hA
    refine va_callv (va_runV (As := []) (rest := []) ⟨hx, hb, hml, hown, hts⟩ (c_B_wipe l dC dI cI cL _ hN_I q535 hc) (cw_F_121 hts ⟨Nat.le_of_ble_eq_true rfl, Nat.le_of_ble_eq_true rfl⟩) ⟨zbM, va_recv hK hP (ci := 6) rfl hN_I, (zpM hP hK hZ hD)⟩ rfl rfl hl.1 rfl (lv_room (Nat.le_of_ble_eq_true rfl)) d_F_read_28 ⟨Nat.zero_le _, Nat.zero_le _⟩) hS (fun q _ h => hFc q h) hFc (fun ws t H locs ht hvm hu hB hz1 hk1 hS => ?_)
    obtain ⟨hN_I, hfr⟩ := hu
    obtain ⟨hP, -, hD1⟩ := hB
    rw [ht] at hP
    have hD := hD1.weaken (fun _ _ _ h => hFc _ h)
    have hN_I : zA ws 19 (aI, .inr (6, [.ref aIA, .int q535.1, .int q535.2])) := hN_I
    have hN_O := (hfr _ (by decide)).trans hN_O
    have hN_K := (hfr _ (by decide)).trans hN_K
    have hN_KA := (hfr _ (by decide)).trans hN_KA
    have hN_T := (hfr _ (by decide)).trans hN_T
    have hN_IA := (hfr _ (by decide)).trans hN_IA
    have hw := z_frC (by decide) hw hfr
    refine lv_iload_n hx hb d_F_read_31 rfl (lv_at hl 0 rfl) ?_
    refine lv_iconst (v := (-1)) hx hb d_F_read_32 (by decide) ?_
    refine lv_icmp_ne (tgt := 46) hx hb d_F_read_33 (by decide) (fun hc => ?_) (fun hc => ?_)
    · have hf := z_f hc hf
      refine lv_iconst (v := (-1)) hx hb d_F_read_46 (by decide) ?_
      refine lv_iload_n hx hb d_F_read_47 rfl (lv_at hl 0 rfl) ?_
      refine lv_isub hx hb d_F_read_48 ?_
      obtain rfl := Option.some.inj hf
      exact W.iret hx hb hr (fun t ht hW => ⟨⟨_, ws, rfl, (by dsimp only; exact ⟨rfl, hN_K, hN_KA, hN_T, hN_I, hw⟩), by rw [ht]; exact hP, va_K.moved hW.alike hK, hD⟩, hS.F ht⟩) hS.2.2 d_F_read_49
    · have hf := z_t hc hf
      refine lv_aload_n hx hb d_F_read_36 rfl (lv_at hl 1 rfl) ?_
      refine gf_F_60 (v := .ref aK) hx hb hts hown hK hP hN_O rfl d_F_read_37 ?_
      refine gf_F_136 (v := .int q534.2.1) hx hb hts hown hK hZ hP hN_K rfl d_F_read_40 ?_
      refine lv_goto (tgt := 49) hx hb d_F_read_43 (by decide) ?_
      obtain rfl := Option.some.inj hf
      exact W.iret hx hb hr (fun t ht hW => ⟨⟨_, ws, rfl, (by dsimp only; exact ⟨rfl, hN_K, hN_KA, hN_T, hN_I, hw⟩), by rw [ht]; exact hP, va_K.moved hW.alike hK, hD⟩, hS.F ht⟩) hS.2.2 d_F_read_49
def f_JA_fill_5 (p1 : Int32) (p3 : Int32) (y0A_n : Nat) : Nat → Int32 → (Nat → Int32) → Option (Int32 × (Nat → Int32))
  | 0, _, _ => none
  | n + 1, v2, y0A_f => if p3 ≤ v2 then (some (v2, y0A_f)) else (if v2 < 0 ∨ y0A_n ≤ v2.toNatClampNeg then none else (f_JA_fill_5 p1 p3 y0A_n n (v2 + 1) (upd y0A_f v2.toNatClampNeg p1)))
def f_JA_fill (x1 : Int32) (y0A_n : Nat) (y0A_f : Nat → Int32) : Option (Nat → Int32) := (f_JA_fill_5 x1 (nI y0A_n) y0A_n FU (0 : Int32) y0A_f).bind (fun q536 => some q536.2)
set_option maxHeartbeats 4000000 in
set_option maxRecDepth 100000 in
theorem c_JA_fill (l : Launch) (dC : Nat → ClassId) (dI : Nat → Nat → Nat) (cI cL : ClassId) {ws0 : va_W} (sz : Nat) {ky0A ay0A : Nat} {y0A_n : Nat} {y0A_f : Nat → Int32} (x1 : Int32) (hN_y0A : zA ws0 ky0A (ay0A, .inl (cI, y0A_n, .inl y0A_f))) (r : Nat → Int32) (hf : f_JA_fill x1 y0A_n y0A_f = some r) : Met l y_JA_fill w_JA_fill rm_JA_fill (va_Pc [.ref ay0A, .int x1] (zM dC dI cI cL ws0 sz)) (va_Qv (fun ws' : va_W => zA ws' ky0A (ay0A, .inl (cI, y0A_n, .inl r)) ∧ ∀ (j : Nat), j ∉ ([ky0A] : List Nat) → ws'[j]? = ws0[j]?) (zQ dC dI cI cL (va_A ws0 sz)) (va_A ws0 sz)) 0 0 (va_A ws0 sz) := by
  refine va_MetF (cc := b_JA_fill) (maxL := 4) (ret := none) (by decide +kernel) rfl ?_
  intro p e s m args below meth c s₁ B hml hv
  obtain ⟨rfl, hsz, hP, hK, hZ, hD0⟩ := hv
  have hx := B.exec
  have hb := B.bytes
  have hr := B.returns
  have hlocks := B.notSynchronized
  have hts : ∀ w ∈ BIG, w.before ([.ref ay0A, .int x1] : List Value).toArray s = true := fun w h => atoms_spec (ws := w_JA_fill) B.pre w (List.mem_cons_of_mem _ h)
  have hown : s.vm.findClass "java/util/Arrays" = some m.cls := findClass_of_methodNamed B.named
  subst hsz
  have hD := hD0.self (sz := s.heap.size)
  generalize hAe : va_A ws0 s.heap.size = A at hD ⊢
  have hA : ∀ q : Nat, s.heap.size ≤ q → A q := fun q h => by rw [← hAe]; exact Or.inr h
  have hS : va_S A s.heap s.heap [] := va_S.rf
  have hw : ∀ (j : Nat), j ∉ ([ky0A] : List Nat) → ws0[j]? = ws0[j]? := fun _ _ => rfl
  have hl := lv_entry ([.ref ay0A, .int x1]) (n := 4) (Nat.le_of_ble_eq_true rfl)
  rw [lg_entry_eq]
  generalize (lg_sl ([.ref ay0A, .int x1]) ++ List.replicate (4 - (lg_sl ([.ref ay0A, .int x1])).length) Slot.unset).toArray = ls at hl ⊢
  have hl : lv_has ls 4 [(0, .ref ay0A), (1, .int x1)] := hl
  unfold f_JA_fill at hf
  refine lv_iconst (v := 0) hx hb d_JA_fill_0 (by decide) ?_
  refine lv_istore_n (lv' := [(2, .int (0 : Int32)), (0, .ref ay0A), (1, .int x1)]) hx hb d_JA_fill_1 rfl hl (by decide) rfl (fun ls hl => ?_)
  refine lv_aload_n hx hb d_JA_fill_2 rfl (lv_at hl 1 rfl) ?_
  refine va_alen (v := nI y0A_n) hx hb hK hP _ 0 hN_y0A rfl rfl d_JA_fill_3 ?_
  refine lv_istore_n (lv' := [(3, .int (nI y0A_n)), (2, .int (0 : Int32)), (0, .ref ay0A), (1, .int x1)]) hx hb d_JA_fill_4 rfl hl (by decide) rfl (fun ls hl => ?_)
  have lp539 : ∀ (Qx : State → Prop) (n : Nat) (v2_537 : Int32) (y0A_f_538 : Nat → Int32) (ws : va_W) (H : Heap) (locs : List Loc) (ls : Array Slot) (q : Int32 × (Nat → Int32)) (hf : f_JA_fill_5 x1 (nI y0A_n) y0A_n n v2_537 y0A_f_538 = some q) (hl : lv_has ls 4 [(0, .ref ay0A), (1, .int x1), (2, .int v2_537), (3, .int (nI y0A_n))]) (hP : va_P (dC, dI) classes ws H) (hD : va_D A ws) (hS : va_S A s.heap H locs) (hN_y0A : zA ws ky0A (ay0A, .inl (cI, y0A_n, .inl y0A_f_538))) (hw : ∀ (j : Nat), j ∉ ([ky0A] : List Nat) → ws[j]? = ws0[j]?) (kt0 : ∀ (ws : va_W) (H : Heap) (locs : List Loc) (ls : Array Slot), lv_has ls 4 [(0, .ref ay0A), (1, .int x1), (2, .int q.1), (3, .int (nI y0A_n))] → (va_P (dC, dI) classes ws H) → (va_D A ws) → (va_S A s.heap H locs) → (zA ws ky0A (ay0A, .inl (cI, y0A_n, .inl q.2))) → (∀ (j : Nat), j ∉ ([ky0A] : List Nat) → ws[j]? = ws0[j]?) → W p l e (headSpec w_JA_fill rm_JA_fill).room s m ([.ref ay0A, .int x1] : List Value).toArray below meth c H locs 0 0 Qx (F0 m 20 ls [])), W p l e (headSpec w_JA_fill rm_JA_fill).room s m ([.ref ay0A, .int x1] : List Value).toArray below meth c H locs 0 0 Qx (F0 m 5 ls []) := by
    intro Qx n
    induction n with
    | zero => intro v2_537 y0A_f_538 ws H locs ls q hf; cases hf
    | succ n ih =>
      intro v2_537 y0A_f_538 ws H locs ls q hf hl hP hD hS hN_y0A hw kt0
      rw [f_JA_fill_5] at hf
      refine lv_iload_n hx hb d_JA_fill_5 rfl (lv_at hl 2 rfl) ?_
      refine lv_iload_n hx hb d_JA_fill_6 rfl (lv_at hl 3 rfl) ?_
      refine lv_icmp_ge (tgt := 20) hx hb d_JA_fill_7 (by decide) (fun hc => ?_) (fun hc => ?_)
      · have hf := z_t hc hf
        obtain rfl := Option.some.inj hf
        exact kt0 _ _ _ ls (lv_sub hl [0, 1, 2, 3] rfl) hP hD hS hN_y0A hw
      · have hf := z_f hc hf
        refine lv_aload_n hx hb d_JA_fill_10 rfl (lv_at hl 0 rfl) ?_
        refine lv_iload_n hx hb d_JA_fill_11 rfl (lv_at hl 2 rfl) ?_
        refine lv_iload_n hx hb d_JA_fill_12 rfl (lv_at hl 1 rfl) ?_
        obtain ⟨hin, hf⟩ := z_no hf
        refine z_iast hx hb hK hP hD hS hN_y0A rfl hin d_JA_fill_13 (fun ws H locs hP hD hS hN_y0A hfr => ?_)
        have hN_y0A : zA ws ky0A (ay0A, .inl (cI, y0A_n, .inl (upd y0A_f_538 v2_537.toNatClampNeg x1))) := hN_y0A
        have hw := z_fr List.mem_cons_self hw hfr
        refine lv_iinc (v := (v2_537 + 1)) (lv' := [(2, .int (v2_537 + 1)), (0, .ref ay0A), (1, .int x1), (3, .int (nI y0A_n))]) hx hb d_JA_fill_14 hl (k := 2) rfl rfl (by decide) rfl (fun ls hl => ?_)
        refine lv_goto (tgt := 5) hx hb d_JA_fill_17 (by decide) ?_
        exact ih (v2_537 + 1) (upd y0A_f_538 v2_537.toNatClampNeg x1) _ _ _ ls _ hf (lv_sub hl [1, 2, 0, 3] rfl) hP hD hS hN_y0A hw kt0
  obtain ⟨q536, hc, hf⟩ := z_b hf
  refine lp539 _ FU (0 : Int32) y0A_f _ _ _ ls q536 hc (lv_sub hl [2, 3, 1, 0] rfl) hP hD hS hN_y0A hw (fun ws H locs ls hl hP hD hS hN_y0A hw => ?_)
  obtain rfl := Option.some.inj hf
  exact W.vret hx hb hr (fun t ht hW => ⟨⟨ws, rfl, ⟨hN_y0A, hw⟩, by rw [ht]; exact hP, va_K.moved hW.alike hK, hD⟩, hS.F ht⟩) hS.2.2 d_JA_fill_20
def f_G_become (x1 : Int32) (x2 : Int32) (G_mostSide : Int32) (GA_n : Nat) (GA_f : Nat → Int32) : Option (Int32 × (Nat → Int32)) := (f_JA_fill x2 GA_n GA_f).bind (fun q540 => some ((if (0 : Int32) < (if G_mostSide < x1 then G_mostSide else x1) then (if G_mostSide < x1 then G_mostSide else x1) else (0 : Int32)), q540))
set_option maxHeartbeats 4000000 in
set_option maxRecDepth 100000 in
theorem c_G_become (l : Launch) (dC : Nat → ClassId) (dI : Nat → Nat → Nat) (cI cL : ClassId) {ws0 : va_W} (sz : Nat) {kG kGA aG aGA : Nat} {G_mostSide G_side : Int32} {GA_n : Nat} {GA_f : Nat → Int32} (x1 : Int32) (x2 : Int32) (hN_G : zA ws0 kG (aG, .inr (1, [.int G_mostSide, .ref aGA, .int G_side]))) (hN_GA : zA ws0 kGA (aGA, .inl (cI, GA_n, .inl GA_f))) (ne_G_GA : kG ≠ kGA) (r : Int32 × (Nat → Int32)) (hf : f_G_become x1 x2 G_mostSide GA_n GA_f = some r) : Met l y_G_become w_G_become rm_G_become (va_Pc [.ref aG, .int x1, .int x2] (zM dC dI cI cL ws0 sz)) (va_Qv (fun ws' : va_W => zA ws' kG (aG, .inr (1, [.int G_mostSide, .ref aGA, .int r.1])) ∧ zA ws' kGA (aGA, .inl (cI, GA_n, .inl r.2)) ∧ ∀ (j : Nat), j ∉ ([kG, kGA] : List Nat) → ws'[j]? = ws0[j]?) (zQ dC dI cI cL (va_A ws0 sz)) (va_A ws0 sz)) 0 0 (va_A ws0 sz) := by
  refine Met.ofW (cc := b_G_become) (maxL := 3) (ret := none) (by decide) rfl ?_
  intro p e s m args below meth c s₁ B hml hv
  obtain ⟨rfl, hsz, hP, hK, hZ, hD0⟩ := hv
  have hx := B.exec
  have hb := B.bytes
  have hr := B.returns
  have hlocks := B.notSynchronized
  have hts : ∀ w ∈ BIG, w.before ([.ref aG, .int x1, .int x2] : List Value).toArray s = true := fun w h => atoms_spec (ws := w_G_become) B.pre w (List.mem_cons_of_mem _ h)
  have hown : s.vm.findClass "FractalMaps$Grid" = some m.cls := findClass_of_methodNamed B.named
  subst hsz
  have hD := hD0.self (sz := s.heap.size)
  generalize hAe : va_A ws0 s.heap.size = A at hD ⊢
  have hA : ∀ q : Nat, s.heap.size ≤ q → A q := fun q h => by rw [← hAe]; exact Or.inr h
  have hS : va_S A s.heap s.heap [] := va_S.rf
  have hw : ∀ (j : Nat), j ∉ ([kG, kGA] : List Nat) → ws0[j]? = ws0[j]? := fun _ _ => rfl
  have hl := lv_entry ([.ref aG, .int x1, .int x2]) (n := 3) (Nat.le_of_ble_eq_true rfl)
  rw [lg_entry_eq]
  generalize (lg_sl ([.ref aG, .int x1, .int x2]) ++ List.replicate (3 - (lg_sl ([.ref aG, .int x1, .int x2])).length) Slot.unset).toArray = ls at hl ⊢
  have hl : lv_has ls 3 [(0, .ref aG), (1, .int x1), (2, .int x2)] := hl
  unfold f_G_become at hf
  refine lv_aload_n hx hb d_G_become_0 rfl (lv_at hl 0 rfl) ?_
  refine lv_iconst (v := 0) hx hb d_G_become_1 (by decide) ?_
  refine lv_iload_n hx hb d_G_become_2 rfl (lv_at hl 1 rfl) ?_
  refine lv_aload_n hx hb d_G_become_3 rfl (lv_at hl 0 rfl) ?_
  refine gf_G_18 (v := .int G_mostSide) hx hb hts hown hK hP hN_G rfl d_G_become_4 ?_
  refine mm_G_9 hx hb (hml.trans hl.1.symm) hown hts (Nat.le_of_ble_eq_true rfl) (Nat.le_of_ble_eq_true rfl) (Nat.zero_le _) (Nat.zero_le _) d_G_become_7 ?_
  refine mm_G_15 hx hb (hml.trans hl.1.symm) hown hts (Nat.le_of_ble_eq_true rfl) (Nat.le_of_ble_eq_true rfl) (Nat.zero_le _) (Nat.zero_le _) d_G_become_10 ?_
  refine pf_G_24 (v := .int (if (0 : Int32) < (if G_mostSide < x1 then G_mostSide else x1) then (if G_mostSide < x1 then G_mostSide else x1) else (0 : Int32))) hx hb hts hown hK hP hD hS hN_G rfl rfl (Nat.le_of_ble_eq_true rfl) d_G_become_13 (fun ws H locs hP hD hS hN_G hfr => ?_)
  have hN_G : zA ws kG (aG, .inr (1, [.int G_mostSide, .ref aGA, .int (if (0 : Int32) < (if G_mostSide < x1 then G_mostSide else x1) then (if G_mostSide < x1 then G_mostSide else x1) else (0 : Int32))])) := hN_G
  have hN_GA := (hfr _ ne_G_GA.symm).trans hN_GA
  have hw := z_fr List.mem_cons_self hw hfr
  refine lv_aload_n hx hb d_G_become_16 rfl (lv_at hl 0 rfl) ?_
  refine gf_G_27 (v := .ref aGA) hx hb hts hown hK hP hN_G rfl d_G_become_17 ?_
  refine lv_iload_n hx hb d_G_become_20 rfl (lv_at hl 2 rfl) ?_
  obtain ⟨q540, hc, hf⟩ := z_b hf
  have hFc := z_free hD hS hA
  refine va_callv (va_runS (As := [.ref aGA, .int x2]) (rest := []) ⟨hx, hb, hml, hown, hts⟩ (c_JA_fill l dC dI cI cL _ x2 hN_GA q540 hc) (cw_G_35 hts ⟨Nat.le_of_ble_eq_true rfl, Nat.le_of_ble_eq_true rfl⟩) ⟨zbM, (zpM hP hK hZ hD)⟩ rfl rfl hl.1 rfl (lv_room (Nat.le_of_ble_eq_true rfl)) d_G_become_21 ⟨Nat.zero_le _, Nat.zero_le _⟩) hS (fun q _ h => hFc q h) hFc (fun ws t H locs ht hvm hu hB hz1 hk1 hS => ?_)
  obtain ⟨hN_GA, hfr⟩ := hu
  obtain ⟨hP, -, hD1⟩ := hB
  rw [ht] at hP
  have hD := hD1.weaken (fun _ _ _ h => hFc _ h)
  have hN_GA : zA ws kGA (aGA, .inl (cI, GA_n, .inl q540)) := hN_GA
  have hN_G := (hfr _ (z_nc ne_G_GA z_nn)).trans hN_G
  have hw := z_frC (z_sc (List.mem_cons_of_mem _ List.mem_cons_self) z_sn) hw hfr
  obtain rfl := Option.some.inj hf
  exact W.vret hx hb hr (fun t ht hW => ⟨⟨ws, rfl, ⟨hN_G, hN_GA, hw⟩, by rw [ht]; exact hP, va_K.moved hW.alike hK, hD⟩, hS.F ht⟩) hS.2.2 d_G_become_24
