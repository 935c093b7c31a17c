def f_F_domain (x1 : Int32) (x2 : Int32) (x3 : Int32) (x4 : Int32) (x5 : Int32) (O_side : Int32) (P_side : Int32) (PA_n : Nat) (PA_f : Nat → Int32) (H_mostSide : Int32) (H_side : Int32) (HA_n : Nat) (HA_f : Nat → Int32) (V_left : Int32) (V_top : Int32) (V_start : Int32) (V_stepAcross : Int32) (V_stepDown : Int32) : Option (Nat ⊕ (Int32 × Int32 × (Nat → Int32) × Int32 × Int32 × Int32 × Int32 × Int32)) := (f_F_isSize x1).bind (fun q163 => if q163 = 0 then (some (.inl 2)) else (if x1 ≤ (O_side / (2 : Int32)) then (if x3 < 0 then (some (.inl 2)) else (if x3 < (8 : Int32) then (if x2 < 0 then (some (.inl 1)) else ((f_F_domainsOf O_side x1).bind (fun q165 => if x2 < q165 then (if x4 < 0 then (some (.inl 1)) else (if x1 ≤ x4 then (some (.inl 1)) else (if x5 < 0 then (some (.inl 1)) else (if x5 < x1 then ((f_G_becomeHalfOf H_mostSide H_side HA_n HA_f P_side PA_n PA_f).bind (fun q167 => (f_V_aim x1 x2 x3 V_left V_top V_start q167.1).bind (fun q168 => (f_V_sample x4 x5 q168.2.2.1 q168.2.2.2.1 q168.2.2.2.2 HA_n q167.2).bind (fun q169 => some (.inr (q169, q167.1, q167.2, q168.1, q168.2.1, q168.2.2.1, q168.2.2.2.1, q168.2.2.2.2)))))) else (some (.inl 1)))))) else (some (.inl 1))))) else (some (.inl 2)))) else (some (.inl 2))))
set_option maxHeartbeats 4000000 in
set_option maxRecDepth 100000 in
theorem c_F_domain (l : Launch) (hfl : l.flags = pinnedFlags ++ [noTraceFlag]) (dC : Nat → ClassId) (dI : Nat → Nat → Nat) (cI cL : ClassId) {ws0 : va_W} (sz : Nat) {aO aP aN aH aV aS aK aT aC aI aPA aHA : Nat} {O_side P_mostSide P_side H_mostSide H_side V_left V_top V_start V_stepAcross V_stepDown : Int32} {PA_n HA_n : Nat} {PA_f HA_f : Nat → Int32} (x1 : Int32) (x2 : Int32) (x3 : Int32) (x4 : Int32) (x5 : Int32) (hN_O : zA ws0 0 (aO, .inr (0, [.int O_side, .ref aP, .ref aN, .ref aH, .ref aV, .ref aS, .ref aK, .ref aT, .ref aC, .ref aI]))) (hN_P : zA ws0 1 (aP, .inr (1, [.int P_mostSide, .ref aPA, .int P_side]))) (hN_PA : zA ws0 2 (aPA, .inl (cI, PA_n, .inl PA_f))) (hN_H : zA ws0 5 (aH, .inr (1, [.int H_mostSide, .ref aHA, .int H_side]))) (hN_HA : zA ws0 6 (aHA, .inl (cI, HA_n, .inl HA_f))) (hN_V : zA ws0 7 (aV, .inr (2, [.ref aH, .int V_left, .int V_top, .int V_start, .int V_stepAcross, .int V_stepDown]))) (r : Nat ⊕ (Int32 × Int32 × (Nat → Int32) × Int32 × Int32 × Int32 × Int32 × Int32)) (hf : f_F_domain x1 x2 x3 x4 x5 O_side P_side PA_n PA_f H_mostSide H_side HA_n HA_f V_left V_top V_start V_stepAcross V_stepDown = some r) : MetT l y_F_domain w_F_domain rm_F_domain (va_Pc [.ref aO, .int x1, .int x2, .int x3, .int x4, .int x5] (zMT dC dI cI cL ws0 sz)) (zX (fun (v : Int32) (ws' : va_W) => ∃ r1, r = .inr r1 ∧ v = r1.1 ∧ zA ws' 5 (aH, .inr (1, [.int H_mostSide, .ref aHA, .int r1.2.1])) ∧ zA ws' 6 (aHA, .inl (cI, HA_n, .inl r1.2.2.1)) ∧ zA ws' 7 (aV, .inr (2, [.ref aH, .int r1.2.2.2.1, .int r1.2.2.2.2.1, .int r1.2.2.2.2.2.1, .int r1.2.2.2.2.2.2.1, .int r1.2.2.2.2.2.2.2])) ∧ ∀ (j : Nat), j ∉ ([5, 6, 7] : List Nat) → ws'[j]? = ws0[j]?) (fun k => r = .inl k) Value.int (zQ dC dI cI cL (va_A ws0 sz)) ws0 (va_A ws0 sz)) 1 6 (va_A ws0 sz) := by
  refine MetT.ofW (cc := b_F_domain) (maxL := 6) (ret := some .int) (by decide) rfl ?_
  intro p e s m args below meth c s₁ B hml hv
  obtain ⟨rfl, hsz, hP, hK, hZ, hD0, hX⟩ := hv
  have hx := B.exec
  have hb := B.bytes
  have hr := B.returns
  have hlocks := B.notSynchronized
  have hts : ∀ w ∈ BIG, w.before ([.ref aO, .int x1, .int x2, .int x3, .int x4, .int x5] : List Value).toArray s = true := fun w h => atoms_spec (ws := w_F_domain) B.pre w (List.mem_cons_of_mem _ h)
  have hown : s.vm.findClass "FractalMaps" = some m.cls := findClass_of_methodNamed B.named
  have hout : c.exceptionTable.toList = [] := by simpa using B.noHandlers (atoms_spec (ws := w_F_domain) B.pre _ List.mem_cons_self)
  subst hsz
  have hD := hD0.self (sz := s.heap.size)
  generalize hAe : va_A ws0 s.heap.size = A at hD ⊢
  have hA : ∀ q : Nat, s.heap.size ≤ q → A q := fun q h => by rw [← hAe]; exact Or.inr h
  have hS : va_S A s.heap s.heap [] := va_S.rf
  have hw : ∀ (j : Nat), j ∉ ([5, 6, 7] : List Nat) → ws0[j]? = ws0[j]? := fun _ _ => rfl
  have hl := lv_entry ([.ref aO, .int x1, .int x2, .int x3, .int x4, .int x5]) (n := 6) (Nat.le_of_ble_eq_true rfl)
  rw [lg_entry_eq]
  generalize (lg_sl ([.ref aO, .int x1, .int x2, .int x3, .int x4, .int x5]) ++ List.replicate (6 - (lg_sl ([.ref aO, .int x1, .int x2, .int x3, .int x4, .int x5])).length) Slot.unset).toArray = ls at hl ⊢
  have hl : lv_has ls 6 [(0, .ref aO), (1, .int x1), (2, .int x2), (3, .int x3), (4, .int x4), (5, .int x5)] := hl
  unfold f_F_domain at hf
  refine lv_iload_n hx hb d_F_domain_0 rfl (lv_at hl 1 rfl) ?_
  obtain ⟨q163, hc, hf⟩ := z_b hf
  refine vp_callSi (z_cr (va_runS (As := [.int x1]) (rest := []) ⟨hx, hb, hml, hown, hts⟩ (c_F_isSize l x1 q163 hc) (cw_F_110 hts ⟨Nat.le_of_ble_eq_true rfl, Nat.le_of_ble_eq_true rfl⟩) ⟨zb0, zp0⟩ rfl rfl hl.1 rfl (lv_room (Nat.le_of_ble_eq_true rfl)) d_F_domain_1 ⟨Nat.zero_le _, Nat.zero_le _⟩)) (fun r164 hv => ?_)
  have hv := hv.symm
  subst hv
  refine lv_if_eq (tgt := 17) hx hb d_F_domain_4 (by decide) (fun hc => ?_) (fun hc => ?_)
  · have hf := z_t hc hf
    obtain rfl := Option.some.inj hf
    exact z_throw (own := "FractalMaps") (cls := "java/lang/IllegalArgumentException") (tx := "no such size") (names := exNames) (k := 2) hfl hx hb hml hl.1 hlocks hown hout hts hX hP hK hD hA (by decide +kernel) (by decide +kernel) oa_96 k_476 k_477 k_50 (by decide +kernel) rfl rfl d_F_domain_17 d_F_domain_20 d_F_domain_21 d_F_domain_23 d_F_domain_26 (Nat.le_of_ble_eq_true rfl) (Nat.le_of_ble_eq_true rfl) (Nat.le_of_ble_eq_true rfl) (Nat.le_of_ble_eq_true rfl)
  · have hf := z_f hc hf
    refine lv_iload_n hx hb d_F_domain_7 rfl (lv_at hl 1 rfl) ?_
    refine lv_aload_n hx hb d_F_domain_8 rfl (lv_at hl 0 rfl) ?_
    refine gf_F_16 (v := .int O_side) hx hb hts hown hK hP hN_O rfl d_F_domain_9 ?_
    refine lv_iconst (v := 2) hx hb d_F_domain_12 (by decide) ?_
    refine lv_idiv hx hb d_F_domain_13 (by decide) ?_
    refine lv_icmp_le (tgt := 27) hx hb d_F_domain_14 (by decide) (fun hc => ?_) (fun hc => ?_)
    · have hf := z_t hc hf
      refine lv_iload_n hx hb d_F_domain_27 rfl (lv_at hl 3 rfl) ?_
      refine lv_if_lt (tgt := 37) hx hb d_F_domain_28 (by decide) (fun hc => ?_) (fun hc => ?_)
      · have hf := z_t hc hf
        obtain rfl := Option.some.inj hf
        exact z_throw (own := "FractalMaps") (cls := "java/lang/IllegalArgumentException") (tx := "a turn is 0 to 7") (names := exNames) (k := 2) hfl hx hb hml hl.1 hlocks hown hout hts hX hP hK hD hA (by decide +kernel) (by decide +kernel) oa_96 k_476 k_477 k_50 (by decide +kernel) rfl rfl d_F_domain_37 d_F_domain_40 d_F_domain_41 d_F_domain_43 d_F_domain_46 (Nat.le_of_ble_eq_true rfl) (Nat.le_of_ble_eq_true rfl) (Nat.le_of_ble_eq_true rfl) (Nat.le_of_ble_eq_true rfl)
      · have hf := z_f hc hf
        refine lv_iload_n hx hb d_F_domain_31 rfl (lv_at hl 3 rfl) ?_
        refine lv_bipush (v := 8) hx hb d_F_domain_32 (by decide) ?_
        refine lv_icmp_lt (tgt := 47) hx hb d_F_domain_34 (by decide) (fun hc => ?_) (fun hc => ?_)
        · have hf := z_t hc hf
          refine lv_iload_n hx hb d_F_domain_47 rfl (lv_at hl 2 rfl) ?_
          refine lv_if_lt (tgt := 63) hx hb d_F_domain_48 (by decide) (fun hc => ?_) (fun hc => ?_)
          · have hf := z_t hc hf
            obtain rfl := Option.some.inj hf
            exact z_throw (own := "FractalMaps") (cls := "java/lang/IndexOutOfBoundsException") (tx := "no such domain") (names := exNames) (k := 1) hfl hx hb hml hl.1 hlocks hown hout hts hX hP hK hD hA (by decide +kernel) (by decide +kernel) oa_89 k_407 k_408 k_49 (by decide +kernel) rfl rfl d_F_domain_63 d_F_domain_66 d_F_domain_67 d_F_domain_69 d_F_domain_72 (Nat.le_of_ble_eq_true rfl) (Nat.le_of_ble_eq_true rfl) (Nat.le_of_ble_eq_true rfl) (Nat.le_of_ble_eq_true rfl)
          · have hf := z_f hc hf
            refine lv_iload_n hx hb d_F_domain_51 rfl (lv_at hl 2 rfl) ?_
            refine lv_aload_n hx hb d_F_domain_52 rfl (lv_at hl 0 rfl) ?_
            refine gf_F_16 (v := .int O_side) hx hb hts hown hK hP hN_O rfl d_F_domain_53 ?_
            refine lv_iload_n hx hb d_F_domain_56 rfl (lv_at hl 1 rfl) ?_
            obtain ⟨q165, hc, hf⟩ := z_b hf
            refine vp_callSi (z_cr (va_runS (As := [.int O_side, .int x1]) (rest := [.int x2]) ⟨hx, hb, hml, hown, hts⟩ (c_F_domainsOf l O_side x1 q165 hc) (cw_F_192 hts ⟨Nat.le_of_ble_eq_true rfl, Nat.le_of_ble_eq_true rfl⟩) ⟨zb0, zp0⟩ rfl rfl hl.1 rfl (lv_room (Nat.le_of_ble_eq_true rfl)) d_F_domain_57 ⟨Nat.zero_le _, Nat.zero_le _⟩)) (fun r166 hv => ?_)
            have hv := hv.symm
            subst hv
            refine lv_icmp_lt (tgt := 73) hx hb d_F_domain_60 (by decide) (fun hc => ?_) (fun hc => ?_)
            · have hf := z_t hc hf
              refine lv_iload hx hb d_F_domain_73 (lv_at hl 4 rfl) ?_
              refine lv_if_lt (tgt := 95) hx hb d_F_domain_75 (by decide) (fun hc => ?_) (fun hc => ?_)
              · have hf := z_t hc hf
                obtain rfl := Option.some.inj hf
                exact z_throw (own := "FractalMaps") (cls := "java/lang/IndexOutOfBoundsException") (tx := "no such sample of a domain") (names := exNames) (k := 1) hfl hx hb hml hl.1 hlocks hown hout hts hX hP hK hD hA (by decide +kernel) (by decide +kernel) oa_89 k_407 k_408 k_49 (by decide +kernel) rfl rfl d_F_domain_95 d_F_domain_98 d_F_domain_99 d_F_domain_101 d_F_domain_104 (Nat.le_of_ble_eq_true rfl) (Nat.le_of_ble_eq_true rfl) (Nat.le_of_ble_eq_true rfl) (Nat.le_of_ble_eq_true rfl)
              · have hf := z_f hc hf
                refine lv_iload hx hb d_F_domain_78 (lv_at hl 4 rfl) ?_
                refine lv_iload_n hx hb d_F_domain_80 rfl (lv_at hl 1 rfl) ?_
                refine lv_icmp_ge (tgt := 95) hx hb d_F_domain_81 (by decide) (fun hc => ?_) (fun hc => ?_)
                · have hf := z_t hc hf
                  obtain rfl := Option.some.inj hf
                  exact z_throw (own := "FractalMaps") (cls := "java/lang/IndexOutOfBoundsException") (tx := "no such sample of a domain") (names := exNames) (k := 1) hfl hx hb hml hl.1 hlocks hown hout hts hX hP hK hD hA (by decide +kernel) (by decide +kernel) oa_89 k_407 k_408 k_49 (by decide +kernel) rfl rfl d_F_domain_95 d_F_domain_98 d_F_domain_99 d_F_domain_101 d_F_domain_104 (Nat.le_of_ble_eq_true rfl) (Nat.le_of_ble_eq_true rfl) (Nat.le_of_ble_eq_true rfl) (Nat.le_of_ble_eq_true rfl)
                · have hf := z_f hc hf
                  refine lv_iload hx hb d_F_domain_84 (lv_at hl 5 rfl) ?_
                  refine lv_if_lt (tgt := 95) hx hb d_F_domain_86 (by decide) (fun hc => ?_) (fun hc => ?_)
                  · have hf := z_t hc hf
                    obtain rfl := Option.some.inj hf
                    exact z_throw (own := "FractalMaps") (cls := "java/lang/IndexOutOfBoundsException") (tx := "no such sample of a domain") (names := exNames) (k := 1) hfl hx hb hml hl.1 hlocks hown hout hts hX hP hK hD hA (by decide +kernel) (by decide +kernel) oa_89 k_407 k_408 k_49 (by decide +kernel) rfl rfl d_F_domain_95 d_F_domain_98 d_F_domain_99 d_F_domain_101 d_F_domain_104 (Nat.le_of_ble_eq_true rfl) (Nat.le_of_ble_eq_true rfl) (Nat.le_of_ble_eq_true rfl) (Nat.le_of_ble_eq_true rfl)
                  · have hf := z_f hc hf
                    refine lv_iload hx hb d_F_domain_89 (lv_at hl 5 rfl) ?_
                    refine lv_iload_n hx hb d_F_domain_91 rfl (lv_at hl 1 rfl) ?_
                    refine lv_icmp_lt (tgt := 105) hx hb d_F_domain_92 (by decide) (fun hc => ?_) (fun hc => ?_)
                    · have hf := z_t hc hf
                      refine lv_aload_n hx hb d_F_domain_105 rfl (lv_at hl 0 rfl) ?_
                      refine gf_F_34 (v := .ref aH) hx hb hts hown hK hP hN_O rfl d_F_domain_106 ?_
                      refine lv_aload_n hx hb d_F_domain_109 rfl (lv_at hl 0 rfl) ?_
                      refine gf_F_27 (v := .ref aP) hx hb hts hown hK hP hN_O rfl d_F_domain_110 ?_
                      obtain ⟨q167, hc, hf⟩ := z_b hf
                      have hFc := z_free hD hS hA
                      refine va_callv (va_runV (As := [.ref aP]) (rest := []) ⟨hx, hb, hml, hown, hts⟩ (c_G_becomeHalfOf l dC dI cI cL _ hN_H hN_HA hN_P hN_PA (by decide) (by decide) (by decide) (by decide) (by decide) q167 hc) (cw_F_199 hts ⟨Nat.le_of_ble_eq_true rfl, Nat.le_of_ble_eq_true rfl⟩) ⟨zbM, va_recv hK hP (ci := 1) rfl hN_H, (zpM hP hK hZ hD)⟩ rfl rfl hl.1 rfl (lv_room (Nat.le_of_ble_eq_true rfl)) d_F_domain_113 ⟨Nat.zero_le _, Nat.zero_le _⟩) hS (fun q _ h => hFc q h) hFc (fun ws t H locs ht hvm hu hB hz1 hk1 hS => ?_)
                      obtain ⟨hN_H, hN_HA, hfr⟩ := hu
                      obtain ⟨hP, -, hD1⟩ := hB
                      rw [ht] at hP
                      have hD := hD1.weaken (fun _ _ _ h => hFc _ h)
                      have hN_H : zA ws 5 (aH, .inr (1, [.int H_mostSide, .ref aHA, .int q167.1])) := hN_H
                      have hN_HA : zA ws 6 (aHA, .inl (cI, HA_n, .inl q167.2)) := hN_HA
                      have hN_O := (hfr _ (by decide)).trans hN_O
                      have hN_P := (hfr _ (by decide)).trans hN_P
                      have hN_PA := (hfr _ (by decide)).trans hN_PA
                      have hN_V := (hfr _ (by decide)).trans hN_V
                      have hw := z_frC (by decide) hw hfr
                      refine lv_aload_n hx hb d_F_domain_116 rfl (lv_at hl 0 rfl) ?_
                      refine gf_F_42 (v := .ref aV) hx hb hts hown hK hP hN_O rfl d_F_domain_117 ?_
                      refine lv_iload_n hx hb d_F_domain_120 rfl (lv_at hl 1 rfl) ?_
                      refine lv_iload_n hx hb d_F_domain_121 rfl (lv_at hl 2 rfl) ?_
                      refine lv_iload_n hx hb d_F_domain_122 rfl (lv_at hl 3 rfl) ?_
                      obtain ⟨q168, hc, hf⟩ := z_b hf
                      have hFc := z_free hD hS hA
                      refine va_callv (va_runV (As := [.int x1, .int x2, .int x3]) (rest := []) ⟨hx, hb, hml, hown, hts⟩ (c_V_aim l dC dI cI cL _ x1 x2 x3 hN_V hN_H q168 hc) (cw_F_202 hts ⟨Nat.le_of_ble_eq_true rfl, Nat.le_of_ble_eq_true rfl⟩) ⟨zbM, va_recv hK hP (ci := 2) rfl hN_V, (zpM hP hK hZ hD)⟩ rfl rfl hl.1 rfl (lv_room (Nat.le_of_ble_eq_true rfl)) d_F_domain_123 ⟨Nat.zero_le _, Nat.zero_le _⟩) hS (fun q _ h => hFc q h) hFc (fun ws t H locs ht hvm hu hB hz1 hk1 hS => ?_)
                      obtain ⟨hN_V, hfr⟩ := hu
                      obtain ⟨hP, -, hD1⟩ := hB
                      rw [ht] at hP
                      have hD := hD1.weaken (fun _ _ _ h => hFc _ h)
                      have hN_V : zA ws 7 (aV, .inr (2, [.ref aH, .int q168.1, .int q168.2.1, .int q168.2.2.1, .int q168.2.2.2.1, .int q168.2.2.2.2])) := hN_V
                      have hN_O := (hfr _ (by decide)).trans hN_O
                      have hN_P := (hfr _ (by decide)).trans hN_P
                      have hN_PA := (hfr _ (by decide)).trans hN_PA
                      have hN_H := (hfr _ (by decide)).trans hN_H
                      have hN_HA := (hfr _ (by decide)).trans hN_HA
                      have hw := z_frC (by decide) hw hfr
                      refine lv_aload_n hx hb d_F_domain_126 rfl (lv_at hl 0 rfl) ?_
                      refine gf_F_42 (v := .ref aV) hx hb hts hown hK hP hN_O rfl d_F_domain_127 ?_
                      refine lv_iload hx hb d_F_domain_130 (lv_at hl 4 rfl) ?_
                      refine lv_iload hx hb d_F_domain_132 (lv_at hl 5 rfl) ?_
                      obtain ⟨q169, hc, hf⟩ := z_b hf
                      refine vp_callSi (z_cr (va_runV (As := [.int x4, .int x5]) (rest := []) ⟨hx, hb, hml, hown, hts⟩ (c_V_sample l dC dI cI cL x4 x5 hN_V hN_H hN_HA q169 hc) (cw_F_205 hts ⟨Nat.le_of_ble_eq_true rfl, Nat.le_of_ble_eq_true rfl⟩) ⟨zbR, va_recv hK hP (ci := 2) rfl hN_V, (zpR hP hK hZ)⟩ rfl rfl hl.1 rfl (lv_room (Nat.le_of_ble_eq_true rfl)) d_F_domain_134 ⟨Nat.zero_le _, Nat.zero_le _⟩)) (fun r170 hv => ?_)
                      have hv := hv.symm
                      subst hv
                      obtain rfl := Option.some.inj hf
                      exact z_iretT hx hb hr hlocks (fun t ht hW => ⟨Or.inl ⟨_, ws, rfl, ⟨_, rfl, (by dsimp only; exact ⟨rfl, hN_H, hN_HA, hN_V, hw⟩)⟩, by rw [ht]; exact hP, va_K.moved hW.alike hK, hD⟩, hS.F ht⟩) hS.2.2 d_F_domain_137 (Nat.zero_le _) (Nat.zero_le _)
                    · have hf := z_f hc hf
                      obtain rfl := Option.some.inj hf
                      exact z_throw (own := "FractalMaps") (cls := "java/lang/IndexOutOfBoundsException") (tx := "no such sample of a domain") (names := exNames) (k := 1) hfl hx hb hml hl.1 hlocks hown hout hts hX hP hK hD hA (by decide +kernel) (by decide +kernel) oa_89 k_407 k_408 k_49 (by decide +kernel) rfl rfl d_F_domain_95 d_F_domain_98 d_F_domain_99 d_F_domain_101 d_F_domain_104 (Nat.le_of_ble_eq_true rfl) (Nat.le_of_ble_eq_true rfl) (Nat.le_of_ble_eq_true rfl) (Nat.le_of_ble_eq_true rfl)
            · have hf := z_f hc hf
              obtain rfl := Option.some.inj hf
              exact z_throw (own := "FractalMaps") (cls := "java/lang/IndexOutOfBoundsException") (tx := "no such domain") (names := exNames) (k := 1) hfl hx hb hml hl.1 hlocks hown hout hts hX hP hK hD hA (by decide +kernel) (by decide +kernel) oa_89 k_407 k_408 k_49 (by decide +kernel) rfl rfl d_F_domain_63 d_F_domain_66 d_F_domain_67 d_F_domain_69 d_F_domain_72 (Nat.le_of_ble_eq_true rfl) (Nat.le_of_ble_eq_true rfl) (Nat.le_of_ble_eq_true rfl) (Nat.le_of_ble_eq_true rfl)
        · have hf := z_f hc hf
          obtain rfl := Option.some.inj hf
          exact z_throw (own := "FractalMaps") (cls := "java/lang/IllegalArgumentException") (tx := "a turn is 0 to 7") (names := exNames) (k := 2) hfl hx hb hml hl.1 hlocks hown hout hts hX hP hK hD hA (by decide +kernel) (by decide +kernel) oa_96 k_476 k_477 k_50 (by decide +kernel) rfl rfl d_F_domain_37 d_F_domain_40 d_F_domain_41 d_F_domain_43 d_F_domain_46 (Nat.le_of_ble_eq_true rfl) (Nat.le_of_ble_eq_true rfl) (Nat.le_of_ble_eq_true rfl) (Nat.le_of_ble_eq_true rfl)
    · have hf := z_f hc hf
      obtain rfl := Option.some.inj hf
      exact z_throw (own := "FractalMaps") (cls := "java/lang/IllegalArgumentException") (tx := "no such size") (names := exNames) (k := 2) hfl hx hb hml hl.1 hlocks hown hout hts hX hP hK hD hA (by decide +kernel) (by decide +kernel) oa_96 k_476 k_477 k_50 (by decide +kernel) rfl rfl d_F_domain_17 d_F_domain_20 d_F_domain_21 d_F_domain_23 d_F_domain_26 (Nat.le_of_ble_eq_true rfl) (Nat.le_of_ble_eq_true rfl) (Nat.le_of_ble_eq_true rfl) (Nat.le_of_ble_eq_true rfl)
def f_F_brought (x1 : Int64) (x2 : Int64) (x3 : Int64) : Option (Int64) := some (if (if x3 < x1 then x3 else x1) < x2 then x2 else (if x3 < x1 then x3 else x1))
set_option maxHeartbeats 4000000 in
set_option maxRecDepth 100000 in
theorem c_F_brought (l : Launch) (x1 : Int64) (x2 : Int64) (x3 : Int64) (r : Int64) (hf : f_F_brought x1 x2 x3 = some r) : Met l y_F_brought w_F_brought rm_F_brought (va_Pc [.long x1, .long x2, .long x3] (fun _ => True)) (vp_Sl (fun v => v = r)) 0 0 (fun _ => False) := by
  refine Met.ofW (cc := b_F_brought) (maxL := 6) (ret := some .long) (by decide) rfl ?_
  intro p e s m args below meth c s₁ B hml hv
  obtain ⟨rfl, -⟩ := hv
  have hx := B.exec
  have hb := B.bytes
  have hr := B.returns
  have hlocks := B.notSynchronized
  have hts : ∀ w ∈ BIG, w.before ([.long x1, .long x2, .long x3] : List Value).toArray s = true := fun w h => atoms_spec (ws := w_F_brought) B.pre w (List.mem_cons_of_mem _ h)
  have hown : s.vm.findClass "FractalMaps" = some m.cls := findClass_of_methodNamed B.named
  have hl := lv_entry ([.long x1, .long x2, .long x3]) (n := 6) (Nat.le_of_ble_eq_true rfl)
  rw [lg_entry_eq]
  generalize (lg_sl ([.long x1, .long x2, .long x3]) ++ List.replicate (6 - (lg_sl ([.long x1, .long x2, .long x3])).length) Slot.unset).toArray = ls at hl ⊢
  have hl : lv_has ls 6 [(0, .long x1), (2, .long x2), (4, .long x3)] := hl
  unfold f_F_brought at hf
  refine lv_lload_n hx hb d_F_brought_0 rfl (lv_at hl 1 rfl) ?_
  refine lv_lload_n hx hb d_F_brought_1 rfl (lv_at hl 0 rfl) ?_
  refine lv_lload hx hb d_F_brought_2 (lv_at hl 2 rfl) ?_
  refine mm_F_290 hx hb (hml.trans hl.1.symm) hown hts (Nat.le_of_ble_eq_true rfl) (Nat.le_of_ble_eq_true rfl) (Nat.zero_le _) (Nat.zero_le _) d_F_brought_4 ?_
  refine mm_F_293 hx hb (hml.trans hl.1.symm) hown hts (Nat.le_of_ble_eq_true rfl) (Nat.le_of_ble_eq_true rfl) (Nat.zero_le _) (Nat.zero_le _) d_F_brought_7 ?_
  obtain rfl := Option.some.inj hf
  exact W.lret hx hb hr (fun t ht hW => ⟨_, rfl, rfl, ht⟩) (fun q h => by cases h) d_F_brought_10
def f_F_paint_18 (p1 : Int32) (p2 : Int32) (p3 : Int32) (p5 : Int32) (O_side : Int32) (P_side : Int32) (PA_n : Nat) : Nat → Int32 → Int32 → (Nat → Int32) → Option (Int32 × Int32 × (Nat → Int32))
  | 0, _, _, _ => none
  | n + 1, v4, v6, PA_f => if O_side ≤ v6 then (some (v4, v6, PA_f)) else ((f_F_brought ((p1.toInt64 + (p2.toInt64 * v6.toInt64)) + (p3.toInt64 * p5.toInt64)) (0 : Int64) (255 : Int64)).bind (fun q171 => (f_G_sample v6 p5 P_side PA_n PA_f).bind (fun q173 => if q171.toInt32 = q173 then ((f_G_set v6 p5 q171.toInt32 P_side PA_n PA_f).bind (fun q175 => f_F_paint_18 p1 p2 p3 p5 O_side P_side PA_n n v4 (v6 + 1) q175)) else ((f_G_set v6 p5 q171.toInt32 P_side PA_n PA_f).bind (fun q176 => f_F_paint_18 p1 p2 p3 p5 O_side P_side PA_n n (v4 + 1) (v6 + 1) q176)))))
def f_F_paint_6 (p1 : Int32) (p2 : Int32) (p3 : Int32) (O_side : Int32) (P_side : Int32) (PA_n : Nat) : Nat → Int32 → Int32 → (Nat → Int32) → Option (Int32 × Int32 × (Nat → Int32))
  | 0, _, _, _ => none
  | n + 1, v4, v5, PA_f => if O_side ≤ v5 then (some (v4, v5, PA_f)) else ((f_F_paint_18 p1 p2 p3 v5 O_side P_side PA_n FU v4 (0 : Int32) PA_f).bind (fun q177 => f_F_paint_6 p1 p2 p3 O_side P_side PA_n n q177.1 (v5 + 1) q177.2.2))
def f_F_paint (x1 : Int32) (x2 : Int32) (x3 : Int32) (O_side : Int32) (P_side : Int32) (PA_n : Nat) (PA_f : Nat → Int32) : Option (Int32 × (Nat → Int32)) := (f_F_paint_6 x1 x2 x3 O_side P_side PA_n FU (0 : Int32) (0 : Int32) PA_f).bind (fun q188 => some (q188.1, q188.2.2))
set_option maxHeartbeats 4000000 in
set_option maxRecDepth 100000 in
theorem c_F_paint (l : Launch) (dC : Nat → ClassId) (dI : Nat → Nat → Nat) (cI cL : ClassId) {ws0 : va_W} (sz : Nat) {aO aP aN aH aV aS aK aT aC aI aPA : Nat} {O_side P_mostSide P_side : Int32} {PA_n : Nat} {PA_f : Nat → Int32} (x1 : Int32) (x2 : Int32) (x3 : Int32) (hN_O : zA ws0 0 (aO, .inr (0, [.int O_side, .ref aP, .ref aN, .ref aH, .ref aV, .ref aS, .ref aK, .ref aT, .ref aC, .ref aI]))) (hN_P : zA ws0 1 (aP, .inr (1, [.int P_mostSide, .ref aPA, .int P_side]))) (hN_PA : zA ws0 2 (aPA, .inl (cI, PA_n, .inl PA_f))) (r : Int32 × (Nat → Int32)) (hf : f_F_paint x1 x2 x3 O_side P_side PA_n PA_f = some r) : Met l y_F_paint w_F_paint rm_F_paint (va_Pc [.ref aO, .int x1, .int x2, .int x3] (zM dC dI cI cL ws0 sz)) (va_Qi (fun (v : Int32) (ws' : va_W) => v = r.1 ∧ zA ws' 2 (aPA, .inl (cI, PA_n, .inl r.2)) ∧ ∀ (j : Nat), j ∉ ([2] : List Nat) → ws'[j]? = ws0[j]?) (zQ dC dI cI cL (va_A ws0 sz)) (va_A ws0 sz)) 0 0 (va_A ws0 sz) := by
  refine Met.ofW (cc := b_F_paint) (maxL := 10) (ret := some .int) (by decide) rfl ?_
  intro p e s m args below meth c s₁ B hml hv
  obtain ⟨rfl, hsz, hP, hK, hZ, hD0⟩ := hv
  have hx := B.exec
  have hb := B.bytes
  have hr := B.returns
  have hlocks := B.notSynchronized
  have hts : ∀ w ∈ BIG, w.before ([.ref aO, .int x1, .int x2, .int x3] : List Value).toArray s = true := fun w h => atoms_spec (ws := w_F_paint) B.pre w (List.mem_cons_of_mem _ h)
  have hown : s.vm.findClass "FractalMaps" = some m.cls := findClass_of_methodNamed B.named
  subst hsz
  have hD := hD0.self (sz := s.heap.size)
  generalize hAe : va_A ws0 s.heap.size = A at hD ⊢
  have hA : ∀ q : Nat, s.heap.size ≤ q → A q := fun q h => by rw [← hAe]; exact Or.inr h
  have hS : va_S A s.heap s.heap [] := va_S.rf
  have hw : ∀ (j : Nat), j ∉ ([2] : List Nat) → ws0[j]? = ws0[j]? := fun _ _ => rfl
  have hl := lv_entry ([.ref aO, .int x1, .int x2, .int x3]) (n := 10) (Nat.le_of_ble_eq_true rfl)
  rw [lg_entry_eq]
  generalize (lg_sl ([.ref aO, .int x1, .int x2, .int x3]) ++ List.replicate (10 - (lg_sl ([.ref aO, .int x1, .int x2, .int x3])).length) Slot.unset).toArray = ls at hl ⊢
  have hl : lv_has ls 10 [(0, .ref aO), (1, .int x1), (2, .int x2), (3, .int x3)] := hl
  unfold f_F_paint at hf
  refine lv_iconst (v := 0) hx hb d_F_paint_0 (by decide) ?_
  refine lv_istore (lv' := [(4, .int (0 : Int32)), (0, .ref aO), (1, .int x1), (2, .int x2), (3, .int x3)]) hx hb d_F_paint_1 hl (by decide) rfl (fun ls hl => ?_)
  refine lv_iconst (v := 0) hx hb d_F_paint_3 (by decide) ?_
  refine lv_istore (lv' := [(5, .int (0 : Int32)), (4, .int (0 : Int32)), (0, .ref aO), (1, .int x1), (2, .int x2), (3, .int x3)]) hx hb d_F_paint_4 hl (by decide) rfl (fun ls hl => ?_)
  have lp192 : ∀ (Qx : State → Prop) (n : Nat) (v4_189 : Int32) (v5_190 : Int32) (PA_f_191 : Nat → Int32) (ws : va_W) (H : Heap) (locs : List Loc) (ls : Array Slot) (q : Int32 × Int32 × (Nat → Int32)) (hf : f_F_paint_6 x1 x2 x3 O_side P_side PA_n n v4_189 v5_190 PA_f_191 = some q) (hl : lv_has ls 10 [(0, .ref aO), (1, .int x1), (2, .int x2), (3, .int x3), (4, .int v4_189), (5, .int v5_190)]) (hP : va_P (dC, dI) classes ws H) (hD : va_D A ws) (hS : va_S A s.heap H locs) (hN_O : zA ws 0 (aO, .inr (0, [.int O_side, .ref aP, .ref aN, .ref aH, .ref aV, .ref aS, .ref aK, .ref aT, .ref aC, .ref aI]))) (hN_P : zA ws 1 (aP, .inr (1, [.int P_mostSide, .ref aPA, .int P_side]))) (hN_PA : zA ws 2 (aPA, .inl (cI, PA_n, .inl PA_f_191))) (hw : ∀ (j : Nat), j ∉ ([2] : List Nat) → ws[j]? = ws0[j]?) (kt0 : ∀ (ws : va_W) (H : Heap) (locs : List Loc) (ls : Array Slot), lv_has ls 10 [(0, .ref aO), (1, .int x1), (2, .int x2), (3, .int x3), (4, .int q.1), (5, .int q.2.1)] → (va_P (dC, dI) classes ws H) → (va_D A ws) → (va_S A s.heap H locs) → (zA ws 0 (aO, .inr (0, [.int O_side, .ref aP, .ref aN, .ref aH, .ref aV, .ref aS, .ref aK, .ref aT, .ref aC, .ref aI]))) → (zA ws 1 (aP, .inr (1, [.int P_mostSide, .ref aPA, .int P_side]))) → (zA ws 2 (aPA, .inl (cI, PA_n, .inl q.2.2))) → (∀ (j : Nat), j ∉ ([2] : List Nat) → ws[j]? = ws0[j]?) → W p l e (headSpec w_F_paint rm_F_paint).room s m ([.ref aO, .int x1, .int x2, .int x3] : List Value).toArray below meth c H locs 0 0 Qx (F0 m 101 ls [])), W p l e (headSpec w_F_paint rm_F_paint).room s m ([.ref aO, .int x1, .int x2, .int x3] : List Value).toArray below meth c H locs 0 0 Qx (F0 m 6 ls []) := by
    intro Qx n
    induction n with
    | zero => intro v4_189 v5_190 PA_f_191 ws H locs ls q hf; cases hf
    | succ n ih =>
      intro v4_189 v5_190 PA_f_191 ws H locs ls q hf hl hP hD hS hN_O hN_P hN_PA hw kt0
      rw [f_F_paint_6] at hf
      refine lv_iload hx hb d_F_paint_6 (lv_at hl 5 rfl) ?_
      refine lv_aload_n hx hb d_F_paint_8 rfl (lv_at hl 0 rfl) ?_
      refine gf_F_16 (v := .int O_side) hx hb hts hown hK hP hN_O rfl d_F_paint_9 ?_
      refine lv_icmp_ge (tgt := 101) hx hb d_F_paint_12 (by decide) (fun hc => ?_) (fun hc => ?_)
      · have hf := z_t hc hf
        obtain rfl := Option.some.inj hf
        exact kt0 _ _ _ ls (lv_sub hl [0, 1, 2, 3, 4, 5] rfl) hP hD hS hN_O hN_P hN_PA hw
      · have hf := z_f hc hf
        refine lv_iconst (v := 0) hx hb d_F_paint_15 (by decide) ?_
        refine lv_istore (lv' := [(6, .int (0 : Int32)), (0, .ref aO), (1, .int x1), (2, .int x2), (3, .int x3), (4, .int v4_189), (5, .int v5_190)]) hx hb d_F_paint_16 hl (by decide) rfl (fun ls hl => ?_)
        have lp197 : ∀ (Qx : State → Prop) (n : Nat) (v4_194 : Int32) (v6_195 : Int32) (PA_f_196 : Nat → Int32) (ws : va_W) (H : Heap) (locs : List Loc) (ls : Array Slot) (q : Int32 × Int32 × (Nat → Int32)) (hf : f_F_paint_18 x1 x2 x3 v5_190 O_side P_side PA_n n v4_194 v6_195 PA_f_196 = some q) (hl : lv_has ls 10 [(0, .ref aO), (1, .int x1), (2, .int x2), (3, .int x3), (4, .int v4_194), (5, .int v5_190), (6, .int v6_195)]) (hP : va_P (dC, dI) classes ws H) (hD : va_D A ws) (hS : va_S A s.heap H locs) (hN_O : zA ws 0 (aO, .inr (0, [.int O_side, .ref aP, .ref aN, .ref aH, .ref aV, .ref aS, .ref aK, .ref aT, .ref aC, .ref aI]))) (hN_P : zA ws 1 (aP, .inr (1, [.int P_mostSide, .ref aPA, .int P_side]))) (hN_PA : zA ws 2 (aPA, .inl (cI, PA_n, .inl PA_f_196))) (hw : ∀ (j : Nat), j ∉ ([2] : List Nat) → ws[j]? = ws0[j]?) (kt0 : ∀ (ws : va_W) (H : Heap) (locs : List Loc) (ls : Array Slot), lv_has ls 10 [(0, .ref aO), (1, .int x1), (2, .int x2), (3, .int x3), (4, .int q.1), (5, .int v5_190), (6, .int q.2.1)] → (va_P (dC, dI) classes ws H) → (va_D A ws) → (va_S A s.heap H locs) → (zA ws 0 (aO, .inr (0, [.int O_side, .ref aP, .ref aN, .ref aH, .ref aV, .ref aS, .ref aK, .ref aT, .ref aC, .ref aI]))) → (zA ws 1 (aP, .inr (1, [.int P_mostSide, .ref aPA, .int P_side]))) → (zA ws 2 (aPA, .inl (cI, PA_n, .inl q.2.2))) → (∀ (j : Nat), j ∉ ([2] : List Nat) → ws[j]? = ws0[j]?) → W p l e (headSpec w_F_paint rm_F_paint).room s m ([.ref aO, .int x1, .int x2, .int x3] : List Value).toArray below meth c H locs 0 0 Qx (F0 m 95 ls [])), W p l e (headSpec w_F_paint rm_F_paint).room s m ([.ref aO, .int x1, .int x2, .int x3] : List Value).toArray below meth c H locs 0 0 Qx (F0 m 18 ls []) := by
          intro Qx n
          induction n with
          | zero => intro v4_194 v6_195 PA_f_196 ws H locs ls q hf; cases hf
          | succ n ih =>
            intro v4_194 v6_195 PA_f_196 ws H locs ls q hf hl hP hD hS hN_O hN_P hN_PA hw kt0
            rw [f_F_paint_18] at hf
            refine lv_iload hx hb d_F_paint_18 (lv_at hl 6 rfl) ?_
            refine lv_aload_n hx hb d_F_paint_20 rfl (lv_at hl 0 rfl) ?_
            refine gf_F_16 (v := .int O_side) hx hb hts hown hK hP hN_O rfl d_F_paint_21 ?_
            refine lv_icmp_ge (tgt := 95) hx hb d_F_paint_24 (by decide) (fun hc => ?_) (fun hc => ?_)
            · have hf := z_t hc hf
              obtain rfl := Option.some.inj hf
              exact kt0 _ _ _ ls (lv_sub hl [0, 1, 2, 3, 4, 5, 6] rfl) hP hD hS hN_O hN_P hN_PA hw
            · have hf := z_f hc hf
              refine lv_iload_n hx hb d_F_paint_27 rfl (lv_at hl 1 rfl) ?_
              refine lv_i2l hx hb d_F_paint_28 rfl ?_
              refine lv_iload_n hx hb d_F_paint_29 rfl (lv_at hl 2 rfl) ?_
              refine lv_i2l hx hb d_F_paint_30 rfl ?_
              refine lv_iload hx hb d_F_paint_31 (lv_at hl 6 rfl) ?_
              refine lv_i2l hx hb d_F_paint_33 rfl ?_
              refine lv_lmul hx hb d_F_paint_34 ?_
              refine lv_ladd hx hb d_F_paint_35 ?_
              refine lv_iload_n hx hb d_F_paint_36 rfl (lv_at hl 3 rfl) ?_
              refine lv_i2l hx hb d_F_paint_37 rfl ?_
              refine lv_iload hx hb d_F_paint_38 (lv_at hl 5 rfl) ?_
              refine lv_i2l hx hb d_F_paint_40 rfl ?_
              refine lv_lmul hx hb d_F_paint_41 ?_
              refine lv_ladd hx hb d_F_paint_42 ?_
              refine lv_lstore (lv' := [(7, .long ((x1.toInt64 + (x2.toInt64 * v6_195.toInt64)) + (x3.toInt64 * v5_190.toInt64))), (0, .ref aO), (1, .int x1), (2, .int x2), (3, .int x3), (4, .int v4_194), (5, .int v5_190), (6, .int v6_195)]) hx hb d_F_paint_43 hl (by decide) rfl (fun ls hl => ?_)
              refine lv_lload hx hb d_F_paint_45 (lv_at hl 0 rfl) ?_
              refine lv_lconst (v := 0) hx hb d_F_paint_47 (by decide) ?_
              refine lv_ldc2 (v := 255) hx hb hown (hts _ lk_F_104) d_F_paint_48 ?_
              obtain ⟨q198, hc, hf⟩ := z_b hf
              refine vp_callSl (z_cr (va_runS (As := [.long ((x1.toInt64 + (x2.toInt64 * v6_195.toInt64)) + (x3.toInt64 * v5_190.toInt64)), .long (0 : Int64), .long (255 : Int64)]) (rest := []) ⟨hx, hb, hml, hown, hts⟩ (c_F_brought l ((x1.toInt64 + (x2.toInt64 * v6_195.toInt64)) + (x3.toInt64 * v5_190.toInt64)) (0 : Int64) (255 : Int64) q198 hc) (cw_F_106 hts ⟨Nat.le_of_ble_eq_true rfl, Nat.le_of_ble_eq_true rfl⟩) ⟨zb0, zp0⟩ rfl rfl hl.1 rfl (lv_room (Nat.le_of_ble_eq_true rfl)) d_F_paint_51 ⟨Nat.zero_le _, Nat.zero_le _⟩)) (fun r199 hv => ?_)
              have hv := hv.symm
              subst hv
              refine lv_l2i hx hb d_F_paint_54 rfl ?_
              refine lv_istore (lv' := [(9, .int q198.toInt32), (7, .long ((x1.toInt64 + (x2.toInt64 * v6_195.toInt64)) + (x3.toInt64 * v5_190.toInt64))), (0, .ref aO), (1, .int x1), (2, .int x2), (3, .int x3), (4, .int v4_194), (5, .int v5_190), (6, .int v6_195)]) hx hb d_F_paint_55 hl (by decide) rfl (fun ls hl => ?_)
              refine lv_iload hx hb d_F_paint_57 (lv_at hl 0 rfl) ?_
              refine lv_aload_n hx hb d_F_paint_59 rfl (lv_at hl 2 rfl) ?_
              refine gf_F_27 (v := .ref aP) hx hb hts hown hK hP hN_O rfl d_F_paint_60 ?_
              refine lv_iload hx hb d_F_paint_63 (lv_at hl 8 rfl) ?_
              refine lv_iload hx hb d_F_paint_65 (lv_at hl 7 rfl) ?_
              obtain ⟨q200, hc, hf⟩ := z_b hf
              refine vp_callSi (z_cr (va_runV (As := [.int v6_195, .int v5_190]) (rest := [.int q198.toInt32]) ⟨hx, hb, hml, hown, hts⟩ (c_G_sample l dC dI cI cL v6_195 v5_190 hN_P hN_PA q200 hc) (cw_F_97 hts ⟨Nat.le_of_ble_eq_true rfl, Nat.le_of_ble_eq_true rfl⟩) ⟨zbR, va_recv hK hP (ci := 1) rfl hN_P, (zpR hP hK hZ)⟩ rfl rfl hl.1 rfl (lv_room (Nat.le_of_ble_eq_true rfl)) d_F_paint_67 ⟨Nat.zero_le _, Nat.zero_le _⟩)) (fun r201 hv => ?_)
              have hv := hv.symm
              subst hv
              refine lv_icmp_eq (tgt := 76) hx hb d_F_paint_70 (by decide) (fun hc => ?_) (fun hc => ?_)
              · have hf := z_t hc hf
                refine lv_aload_n hx hb d_F_paint_76 rfl (lv_at hl 2 rfl) ?_
                refine gf_F_27 (v := .ref aP) hx hb hts hown hK hP hN_O rfl d_F_paint_77 ?_
                refine lv_iload hx hb d_F_paint_80 (lv_at hl 8 rfl) ?_
                refine lv_iload hx hb d_F_paint_82 (lv_at hl 7 rfl) ?_
                refine lv_iload hx hb d_F_paint_84 (lv_at hl 0 rfl) ?_
                obtain ⟨q202, hc, hf⟩ := z_b hf
                have hFc := z_free hD hS hA
                refine va_callv (va_runV (As := [.int v6_195, .int v5_190, .int q198.toInt32]) (rest := []) ⟨hx, hb, hml, hown, hts⟩ (c_G_set l dC dI cI cL _ v6_195 v5_190 q198.toInt32 hN_P hN_PA (by decide) q202 hc) (cw_F_100 hts ⟨Nat.le_of_ble_eq_true rfl, Nat.le_of_ble_eq_true rfl⟩) ⟨zbM, va_recv hK hP (ci := 1) rfl hN_P, (zpM hP hK hZ hD)⟩ rfl rfl hl.1 rfl (lv_room (Nat.le_of_ble_eq_true rfl)) d_F_paint_86 ⟨Nat.zero_le _, Nat.zero_le _⟩) hS (fun q _ h => hFc q h) hFc (fun ws t H locs ht hvm hu hB hz1 hk1 hS => ?_)
                obtain ⟨hN_PA, hfr⟩ := hu
                obtain ⟨hP, -, hD1⟩ := hB
                rw [ht] at hP
                have hD := hD1.weaken (fun _ _ _ h => hFc _ h)
                have hN_PA : zA ws 2 (aPA, .inl (cI, PA_n, .inl q202)) := hN_PA
                have hN_O := (hfr _ (by decide)).trans hN_O
                have hN_P := (hfr _ (by decide)).trans hN_P
                have hw := z_frC (by decide) hw hfr
                refine lv_iinc (v := (v6_195 + 1)) (lv' := [(6, .int (v6_195 + 1)), (9, .int q198.toInt32), (7, .long ((x1.toInt64 + (x2.toInt64 * v6_195.toInt64)) + (x3.toInt64 * v5_190.toInt64))), (0, .ref aO), (1, .int x1), (2, .int x2), (3, .int x3), (4, .int v4_194), (5, .int v5_190)]) hx hb d_F_paint_89 hl (k := 8) rfl rfl (by decide) rfl (fun ls hl => ?_)
                refine lv_goto (tgt := 18) hx hb d_F_paint_92 (by decide) ?_
                exact ih v4_194 (v6_195 + 1) q202 _ _ _ ls _ hf (lv_sub hl [3, 4, 5, 6, 7, 8, 0] rfl) hP hD hS hN_O hN_P hN_PA hw kt0
              · have hf := z_f hc hf
                refine lv_iinc (v := (v4_194 + 1)) (lv' := [(4, .int (v4_194 + 1)), (9, .int q198.toInt32), (7, .long ((x1.toInt64 + (x2.toInt64 * v6_195.toInt64)) + (x3.toInt64 * v5_190.toInt64))), (0, .ref aO), (1, .int x1), (2, .int x2), (3, .int x3), (5, .int v5_190), (6, .int v6_195)]) hx hb d_F_paint_73 hl (k := 6) rfl rfl (by decide) rfl (fun ls hl => ?_)
                refine lv_aload_n hx hb d_F_paint_76 rfl (lv_at hl 3 rfl) ?_
                refine gf_F_27 (v := .ref aP) hx hb hts hown hK hP hN_O rfl d_F_paint_77 ?_
                refine lv_iload hx hb d_F_paint_80 (lv_at hl 8 rfl) ?_
                refine lv_iload hx hb d_F_paint_82 (lv_at hl 7 rfl) ?_
                refine lv_iload hx hb d_F_paint_84 (lv_at hl 1 rfl) ?_
                obtain ⟨q203, hc, hf⟩ := z_b hf
                have hFc := z_free hD hS hA
                refine va_callv (va_runV (As := [.int v6_195, .int v5_190, .int q198.toInt32]) (rest := []) ⟨hx, hb, hml, hown, hts⟩ (c_G_set l dC dI cI cL _ v6_195 v5_190 q198.toInt32 hN_P hN_PA (by decide) q203 hc) (cw_F_100 hts ⟨Nat.le_of_ble_eq_true rfl, Nat.le_of_ble_eq_true rfl⟩) ⟨zbM, va_recv hK hP (ci := 1) rfl hN_P, (zpM hP hK hZ hD)⟩ rfl rfl hl.1 rfl (lv_room (Nat.le_of_ble_eq_true rfl)) d_F_paint_86 ⟨Nat.zero_le _, Nat.zero_le _⟩) hS (fun q _ h => hFc q h) hFc (fun ws t H locs ht hvm hu hB hz1 hk1 hS => ?_)
                obtain ⟨hN_PA, hfr⟩ := hu
                obtain ⟨hP, -, hD1⟩ := hB
                rw [ht] at hP
                have hD := hD1.weaken (fun _ _ _ h => hFc _ h)
                have hN_PA : zA ws 2 (aPA, .inl (cI, PA_n, .inl q203)) := hN_PA
                have hN_O := (hfr _ (by decide)).trans hN_O
                have hN_P := (hfr _ (by decide)).trans hN_P
                have hw := z_frC (by decide) hw hfr
                refine lv_iinc (v := (v6_195 + 1)) (lv' := [(6, .int (v6_195 + 1)), (4, .int (v4_194 + 1)), (9, .int q198.toInt32), (7, .long ((x1.toInt64 + (x2.toInt64 * v6_195.toInt64)) + (x3.toInt64 * v5_190.toInt64))), (0, .ref aO), (1, .int x1), (2, .int x2), (3, .int x3), (5, .int v5_190)]) hx hb d_F_paint_89 hl (k := 8) rfl rfl (by decide) rfl (fun ls hl => ?_)
                refine lv_goto (tgt := 18) hx hb d_F_paint_92 (by decide) ?_
                exact ih (v4_194 + 1) (v6_195 + 1) q203 _ _ _ ls _ hf (lv_sub hl [4, 5, 6, 7, 1, 8, 0] rfl) hP hD hS hN_O hN_P hN_PA hw kt0
        obtain ⟨q193, hc, hf⟩ := z_b hf
        refine lp197 _ FU v4_189 (0 : Int32) PA_f_191 _ _ _ ls q193 hc (lv_sub hl [1, 2, 3, 4, 5, 6, 0] rfl) hP hD hS hN_O hN_P hN_PA hw (fun ws H locs ls hl hP hD hS hN_O hN_P hN_PA hw => ?_)
        refine lv_iinc (v := (v5_190 + 1)) (lv' := [(5, .int (v5_190 + 1)), (0, .ref aO), (1, .int x1), (2, .int x2), (3, .int x3), (4, .int q193.1), (6, .int q193.2.1)]) hx hb d_F_paint_95 hl (k := 5) rfl rfl (by decide) rfl (fun ls hl => ?_)
        refine lv_goto (tgt := 6) hx hb d_F_paint_98 (by decide) ?_
        exact ih q193.1 (v5_190 + 1) q193.2.2 _ _ _ ls _ hf (lv_sub hl [1, 2, 3, 4, 5, 0] rfl) hP hD hS hN_O hN_P hN_PA hw kt0
  obtain ⟨q188, hc, hf⟩ := z_b hf
  refine lp192 _ FU (0 : Int32) (0 : Int32) PA_f _ _ _ ls q188 hc (lv_sub hl [2, 3, 4, 5, 1, 0] rfl) hP hD hS hN_O hN_P hN_PA hw (fun ws H locs ls hl hP hD hS hN_O hN_P hN_PA hw => ?_)
  refine lv_iload hx hb d_F_paint_101 (lv_at hl 4 rfl) ?_
  obtain rfl := Option.some.inj hf
  exact W.iret hx hb hr (fun t ht hW => ⟨⟨_, ws, rfl, ⟨rfl, hN_PA, hw⟩, by rw [ht]; exact hP, va_K.moved hW.alike hK, hD⟩, hS.F ht⟩) hS.2.2 d_F_paint_103
def f_S_start (P_side : Int32) (PA_n : Nat) (PA_f : Nat → Int32) (H_mostSide : Int32) (H_side : Int32) (HA_n : Nat) (HA_f : Nat → Int32) : Option (Int32 × Int32 × (Nat → Int32)) := (f_G_becomeHalfOf H_mostSide H_side HA_n HA_f P_side PA_n PA_f).bind (fun q204 => some ((0 : Int32), q204.1, q204.2))
set_option maxHeartbeats 4000000 in
set_option maxRecDepth 100000 in
theorem c_S_start (l : Launch) (dC : Nat → ClassId) (dI : Nat → Nat → Nat) (cI cL : ClassId) {ws0 : va_W} (sz : Nat) {aS aP aH aV aW aD aQ aR aE aPA aHA : Nat} {S_tried S_size S_count S_wantedSum S_foundSum S_foundSquares P_mostSide P_side H_mostSide H_side : Int32} {PA_n HA_n : Nat} {PA_f HA_f : Nat → Int32} (hN_S : zA ws0 8 (aS, .inr (3, [.ref aP, .ref aH, .ref aV, .ref aW, .ref aD, .ref aQ, .ref aR, .ref aE, .int S_tried, .int S_size, .int S_count, .int S_wantedSum, .int S_foundSum, .int S_foundSquares]))) (hN_P : zA ws0 1 (aP, .inr (1, [.int P_mostSide, .ref aPA, .int P_side]))) (hN_PA : zA ws0 2 (aPA, .inl (cI, PA_n, .inl PA_f))) (hN_H : zA ws0 5 (aH, .inr (1, [.int H_mostSide, .ref aHA, .int H_side]))) (hN_HA : zA ws0 6 (aHA, .inl (cI, HA_n, .inl HA_f))) (r : Int32 × Int32 × (Nat → Int32)) (hf : f_S_start P_side PA_n PA_f H_mostSide H_side HA_n HA_f = some r) : Met l y_S_start w_S_start rm_S_start (va_Pc [.ref aS] (zM dC dI cI cL ws0 sz)) (va_Qv (fun ws' : va_W => zA ws' 8 (aS, .inr (3, [.ref aP, .ref aH, .ref aV, .ref aW, .ref aD, .ref aQ, .ref aR, .ref aE, .int r.1, .int S_size, .int S_count, .int S_wantedSum, .int S_foundSum, .int S_foundSquares])) ∧ zA ws' 5 (aH, .inr (1, [.int H_mostSide, .ref aHA, .int r.2.1])) ∧ zA ws' 6 (aHA, .inl (cI, HA_n, .inl r.2.2)) ∧ ∀ (j : Nat), j ∉ ([8, 5, 6] : List Nat) → ws'[j]? = ws0[j]?) (zQ dC dI cI cL (va_A ws0 sz)) (va_A ws0 sz)) 0 0 (va_A ws0 sz) := by
  refine Met.ofW (cc := b_S_start) (maxL := 1) (ret := none) (by decide) rfl ?_
  intro p e s m args below meth c s₁ B hml hv
  obtain ⟨rfl, hsz, hP, hK, hZ, hD0⟩ := hv
  have hx := B.exec
  have hb := B.bytes
  have hr := B.returns
  have hlocks := B.notSynchronized
  have hts : ∀ w ∈ BIG, w.before ([.ref aS] : List Value).toArray s = true := fun w h => atoms_spec (ws := w_S_start) B.pre w (List.mem_cons_of_mem _ h)
  have hown : s.vm.findClass "FractalMaps$Search" = some m.cls := findClass_of_methodNamed B.named
  subst hsz
  have hD := hD0.self (sz := s.heap.size)
  generalize hAe : va_A ws0 s.heap.size = A at hD ⊢
  have hA : ∀ q : Nat, s.heap.size ≤ q → A q := fun q h => by rw [← hAe]; exact Or.inr h
  have hS : va_S A s.heap s.heap [] := va_S.rf
  have hw : ∀ (j : Nat), j ∉ ([8, 5, 6] : List Nat) → ws0[j]? = ws0[j]? := fun _ _ => rfl
  have hl := lv_entry ([.ref aS]) (n := 1) (Nat.le_of_ble_eq_true rfl)
  rw [lg_entry_eq]
  generalize (lg_sl ([.ref aS]) ++ List.replicate (1 - (lg_sl ([.ref aS])).length) Slot.unset).toArray = ls at hl ⊢
  have hl : lv_has ls 1 [(0, .ref aS)] := hl
  unfold f_S_start at hf
  refine lv_aload_n hx hb d_S_start_0 rfl (lv_at hl 0 rfl) ?_
  refine lv_iconst (v := 0) hx hb d_S_start_1 (by decide) ?_
  refine pf_S_47 (v := .int (0 : Int32)) hx hb hts hown hK hP hD hS hN_S rfl rfl (Nat.le_of_ble_eq_true rfl) d_S_start_2 (fun ws H locs hP hD hS hN_S hfr => ?_)
  have hN_S : zA ws 8 (aS, .inr (3, [.ref aP, .ref aH, .ref aV, .ref aW, .ref aD, .ref aQ, .ref aR, .ref aE, .int (0 : Int32), .int S_size, .int S_count, .int S_wantedSum, .int S_foundSum, .int S_foundSquares])) := hN_S
  have hN_P := (hfr _ (by decide)).trans hN_P
  have hN_PA := (hfr _ (by decide)).trans hN_PA
  have hN_H := (hfr _ (by decide)).trans hN_H
  have hN_HA := (hfr _ (by decide)).trans hN_HA
  have hw := z_fr (by decide) hw hfr
  refine lv_aload_n hx hb d_S_start_5 rfl (lv_at hl 0 rfl) ?_
  refine gf_S_15 (v := .ref aH) hx hb hts hown hK hP hN_S rfl d_S_start_6 ?_
  refine lv_aload_n hx hb d_S_start_9 rfl (lv_at hl 0 rfl) ?_
  refine gf_S_9 (v := .ref aP) hx hb hts hown hK hP hN_S rfl d_S_start_10 ?_
  obtain ⟨q204, hc, hf⟩ := z_b hf
  have hFc := z_free hD hS hA
  refine va_callv (va_runV (As := [.ref aP]) (rest := []) ⟨hx, hb, hml, hown, hts⟩ (c_G_becomeHalfOf l dC dI cI cL _ hN_H hN_HA hN_P hN_PA (by decide) (by decide) (by decide) (by decide) (by decide) q204 hc) (cw_S_51 hts ⟨Nat.le_of_ble_eq_true rfl, Nat.le_of_ble_eq_true rfl⟩) ⟨zbM, va_recv hK hP (ci := 1) rfl hN_H, (zpM hP hK hZ hD)⟩ rfl rfl hl.1 rfl (lv_room (Nat.le_of_ble_eq_true rfl)) d_S_start_13 ⟨Nat.zero_le _, Nat.zero_le _⟩) hS (fun q _ h => hFc q h) hFc (fun ws t H locs ht hvm hu hB hz1 hk1 hS => ?_)
  obtain ⟨hN_H, hN_HA, hfr⟩ := hu
  obtain ⟨hP, -, hD1⟩ := hB
  rw [ht] at hP
  have hD := hD1.weaken (fun _ _ _ h => hFc _ h)
  have hN_H : zA ws 5 (aH, .inr (1, [.int H_mostSide, .ref aHA, .int q204.1])) := hN_H
  have hN_HA : zA ws 6 (aHA, .inl (cI, HA_n, .inl q204.2)) := hN_HA
  have hN_S := (hfr _ (by decide)).trans hN_S
  have hN_P := (hfr _ (by decide)).trans hN_P
  have hN_PA := (hfr _ (by decide)).trans hN_PA
  have hw := z_frC (by decide) hw hfr
  obtain rfl := Option.some.inj hf
  exact W.vret hx hb hr (fun t ht hW => ⟨⟨ws, rfl, ⟨hN_S, hN_H, hN_HA, hw⟩, by rw [ht]; exact hP, va_K.moved hW.alike hK, hD⟩, hS.F ht⟩) hS.2.2 d_S_start_16
def f_V_sourceQuarter (x1 : Int32) (x2 : Int32) : Option (Int32) := (f_F_acrossOf x2).bind (fun q205 => (f_F_downOf x2).bind (fun q207 => (f_V_sourceDown (2 : Int32) x1 q205 q207).bind (fun q209 => (f_V_sourceAcross (2 : Int32) x1 q205 q207).bind (fun q211 => some (((2 : Int32) * q209) + q211)))))
set_option maxHeartbeats 4000000 in
set_option maxRecDepth 100000 in
theorem c_V_sourceQuarter (l : Launch) (x1 : Int32) (x2 : Int32) (r : Int32) (hf : f_V_sourceQuarter x1 x2 = some r) : Met l y_V_sourceQuarter w_V_sourceQuarter rm_V_sourceQuarter (va_Pc [.int x1, .int x2] zN) (vp_Si (fun v => v = r)) 0 0 (fun _ => False) := by
  refine Met.ofW (cc := b_V_sourceQuarter) (maxL := 4) (ret := some .int) (by decide) rfl ?_
  intro p e s m args below meth c s₁ B hml hv
  obtain ⟨rfl, hZ⟩ := hv
  have hx := B.exec
  have hb := B.bytes
  have hr := B.returns
  have hlocks := B.notSynchronized
  have hts : ∀ w ∈ BIG, w.before ([.int x1, .int x2] : List Value).toArray s = true := fun w h => atoms_spec (ws := w_V_sourceQuarter) B.pre w (List.mem_cons_of_mem _ h)
  have hown : s.vm.findClass "FractalMaps$View" = some m.cls := findClass_of_methodNamed B.named
  have hl := lv_entry ([.int x1, .int x2]) (n := 4) (Nat.le_of_ble_eq_true rfl)
  rw [lg_entry_eq]
  generalize (lg_sl ([.int x1, .int x2]) ++ List.replicate (4 - (lg_sl ([.int x1, .int x2])).length) Slot.unset).toArray = ls at hl ⊢
  have hl : lv_has ls 4 [(0, .int x1), (1, .int x2)] := hl
  unfold f_V_sourceQuarter at hf
  refine lv_iload_n hx hb d_V_sourceQuarter_0 rfl (lv_at hl 1 rfl) ?_
  obtain ⟨q205, hc, hf⟩ := z_b hf
  refine vp_callSi (z_cr (va_runSN (As := [.int x2]) (rest := []) ⟨hx, hb, hml, hown, hts⟩ (c_F_acrossOf l x2 q205 hc) (cw_V_54 hts hZ ⟨Nat.le_of_ble_eq_true rfl, Nat.le_of_ble_eq_true rfl⟩) ⟨zb0, zp0⟩ rfl rfl hl.1 rfl (lv_room (Nat.le_of_ble_eq_true rfl)) d_V_sourceQuarter_1 ⟨Nat.zero_le _, Nat.zero_le _⟩)) (fun r206 hv => ?_)
  have hv := hv.symm
  subst hv
  refine lv_istore_n (lv' := [(2, .int q205), (0, .int x1), (1, .int x2)]) hx hb d_V_sourceQuarter_4 rfl hl (by decide) rfl (fun ls hl => ?_)
  refine lv_iload_n hx hb d_V_sourceQuarter_5 rfl (lv_at hl 2 rfl) ?_
  obtain ⟨q207, hc, hf⟩ := z_b hf
  refine vp_callSi (z_cr (va_runSN (As := [.int x2]) (rest := []) ⟨hx, hb, hml, hown, hts⟩ (c_F_downOf l x2 q207 hc) (cw_V_58 hts hZ ⟨Nat.le_of_ble_eq_true rfl, Nat.le_of_ble_eq_true rfl⟩) ⟨zb0, zp0⟩ rfl rfl hl.1 rfl (lv_room (Nat.le_of_ble_eq_true rfl)) d_V_sourceQuarter_6 ⟨Nat.zero_le _, Nat.zero_le _⟩)) (fun r208 hv => ?_)
  have hv := hv.symm
  subst hv
  refine lv_istore_n (lv' := [(3, .int q207), (2, .int q205), (0, .int x1), (1, .int x2)]) hx hb d_V_sourceQuarter_9 rfl hl (by decide) rfl (fun ls hl => ?_)
  refine lv_iconst (v := 2) hx hb d_V_sourceQuarter_10 (by decide) ?_
  refine lv_iconst (v := 2) hx hb d_V_sourceQuarter_11 (by decide) ?_
  refine lv_iload_n hx hb d_V_sourceQuarter_12 rfl (lv_at hl 2 rfl) ?_
  refine lv_iload_n hx hb d_V_sourceQuarter_13 rfl (lv_at hl 1 rfl) ?_
  refine lv_iload_n hx hb d_V_sourceQuarter_14 rfl (lv_at hl 0 rfl) ?_
  obtain ⟨q209, hc, hf⟩ := z_b hf
  refine vp_callSi (z_cr (va_runS (As := [.int (2 : Int32), .int x1, .int q205, .int q207]) (rest := [.int (2 : Int32)]) ⟨hx, hb, hml, hown, hts⟩ (c_V_sourceDown l (2 : Int32) x1 q205 q207 q209 hc) (cw_V_48 hts ⟨Nat.le_of_ble_eq_true rfl, Nat.le_of_ble_eq_true rfl⟩) ⟨zb0, zp0⟩ rfl rfl hl.1 rfl (lv_room (Nat.le_of_ble_eq_true rfl)) d_V_sourceQuarter_15 ⟨Nat.zero_le _, Nat.zero_le _⟩)) (fun r210 hv => ?_)
  have hv := hv.symm
  subst hv
  refine lv_imul hx hb d_V_sourceQuarter_18 ?_
  refine lv_iconst (v := 2) hx hb d_V_sourceQuarter_19 (by decide) ?_
  refine lv_iload_n hx hb d_V_sourceQuarter_20 rfl (lv_at hl 2 rfl) ?_
  refine lv_iload_n hx hb d_V_sourceQuarter_21 rfl (lv_at hl 1 rfl) ?_
  refine lv_iload_n hx hb d_V_sourceQuarter_22 rfl (lv_at hl 0 rfl) ?_
  obtain ⟨q211, hc, hf⟩ := z_b hf
  refine vp_callSi (z_cr (va_runS (As := [.int (2 : Int32), .int x1, .int q205, .int q207]) (rest := [.int ((2 : Int32) * q209)]) ⟨hx, hb, hml, hown, hts⟩ (c_V_sourceAcross l (2 : Int32) x1 q205 q207 q211 hc) (cw_V_51 hts ⟨Nat.le_of_ble_eq_true rfl, Nat.le_of_ble_eq_true rfl⟩) ⟨zb0, zp0⟩ rfl rfl hl.1 rfl (lv_room (Nat.le_of_ble_eq_true rfl)) d_V_sourceQuarter_23 ⟨Nat.zero_le _, Nat.zero_le _⟩)) (fun r212 hv => ?_)
  have hv := hv.symm
  subst hv
  refine lv_iadd hx hb d_V_sourceQuarter_26 ?_
  obtain rfl := Option.some.inj hf
  exact W.iret hx hb hr (fun t ht hW => ⟨_, rfl, rfl, ht⟩) (fun q h => by cases h) d_V_sourceQuarter_27
