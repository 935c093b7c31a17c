def f_M_kind (x1 : Int32) (x2 : Int32) (x3 : Int32) (X_code : Int32) (X_side : Int32) (Xpicture_n : Nat) (Xpicture_f : Nat → Int32) (Xrs_n : Nat) (Xrs_f : Nat → Int32) : Option (Int32 × Int32 × (Nat → Int32)) := (f_M_isSize x3).bind (fun q712 => if q712 = 0 then (if (1 : Int32) ≤ 0 then ((f_M_layBlock x1 x2 x3 X_side Xpicture_n Xpicture_f Xrs_n Xrs_f).bind (fun q727 => (f_M_classOf x3 Xrs_n q727).bind (fun q728 => some (q728, (1 : Int32), q727)))) else (some ((0 : Int32), (1 : Int32), Xrs_f))) else ((f_M_in x1.toInt64 (0 : Int64) ((X_side - x3).toInt64)).bind (fun q714 => if q714 = 0 then (if (2 : Int32) ≤ 0 then ((f_M_layBlock x1 x2 x3 X_side Xpicture_n Xpicture_f Xrs_n Xrs_f).bind (fun q716 => (f_M_classOf x3 Xrs_n q716).bind (fun q717 => some (q717, (2 : Int32), q716)))) else (some ((0 : Int32), (2 : Int32), Xrs_f))) else ((f_M_in x2.toInt64 (0 : Int64) ((X_side - x3).toInt64)).bind (fun q719 => if q719 = 0 then (if (2 : Int32) ≤ 0 then ((f_M_layBlock x1 x2 x3 X_side Xpicture_n Xpicture_f Xrs_n Xrs_f).bind (fun q724 => (f_M_classOf x3 Xrs_n q724).bind (fun q725 => some (q725, (2 : Int32), q724)))) else (some ((0 : Int32), (2 : Int32), Xrs_f))) else (if (0 : Int32) ≤ 0 then ((f_M_layBlock x1 x2 x3 X_side Xpicture_n Xpicture_f Xrs_n Xrs_f).bind (fun q721 => (f_M_classOf x3 Xrs_n q721).bind (fun q722 => some (q722, (0 : Int32), q721)))) else (some ((0 : Int32), (0 : Int32), Xrs_f))))))))
set_option maxHeartbeats 4000000 in
set_option maxRecDepth 100000 in
theorem c_M_kind (l : Launch) (dC : Nat → ClassId) (dI : Nat → Nat → Nat) (cI cL : ClassId) {ws0 : va_W} (sz : Nat) {aX aXpicture aXhalf aXblocks aXencoded aXfed aXpile aXnews aXolds aXhalves aXds aXrs aXbest : Nat} {X_code X_side X_many X_found X_encodedBits X_fedMany X_readAt X_why X_tried X_waiting X_decoded : Int32} {X_bestError : Int64} {Xpicture_n Xrs_n : Nat} {Xpicture_f Xrs_f : Nat → Int32} (x1 : Int32) (x2 : Int32) (x3 : Int32) (hN_X : zA ws0 21 (aX, .inr (7, [.int X_code, .int X_side, .ref aXpicture, .ref aXhalf, .int X_many, .ref aXblocks, .int X_found, .int X_encodedBits, .ref aXencoded, .int X_fedMany, .ref aXfed, .int X_readAt, .int X_why, .int X_tried, .int X_waiting, .ref aXpile, .int X_decoded, .ref aXnews, .ref aXolds, .ref aXhalves, .ref aXds, .ref aXrs, .ref aXbest, .long X_bestError]))) (hN_Xpicture : zA ws0 22 (aXpicture, .inl (cI, Xpicture_n, .inl Xpicture_f))) (hN_Xrs : zA ws0 32 (aXrs, .inl (cI, Xrs_n, .inl Xrs_f))) (r : Int32 × Int32 × (Nat → Int32)) (hf : f_M_kind x1 x2 x3 X_code X_side Xpicture_n Xpicture_f Xrs_n Xrs_f = some r) : Met l y_M_kind w_M_kind rm_M_kind (va_Pc [.ref aX, .int x1, .int x2, .int x3] (zM dC dI cI cL ws0 sz)) (va_Qi (fun (v : Int32) (ws' : va_W) => v = r.1 ∧ zA ws' 21 (aX, .inr (7, [.int r.2.1, .int X_side, .ref aXpicture, .ref aXhalf, .int X_many, .ref aXblocks, .int X_found, .int X_encodedBits, .ref aXencoded, .int X_fedMany, .ref aXfed, .int X_readAt, .int X_why, .int X_tried, .int X_waiting, .ref aXpile, .int X_decoded, .ref aXnews, .ref aXolds, .ref aXhalves, .ref aXds, .ref aXrs, .ref aXbest, .long X_bestError])) ∧ zA ws' 32 (aXrs, .inl (cI, Xrs_n, .inl r.2.2)) ∧ ∀ (j : Nat), j ∉ ([21, 32] : List Nat) → ws'[j]? = ws0[j]?) (zQ dC dI cI cL (va_A ws0 sz)) (va_A ws0 sz)) 0 0 (va_A ws0 sz) := by
  refine Met.ofW (cc := b_M_kind) (maxL := 4) (ret := some .int) (by decide) rfl ?_
  intro p e s m args below meth c s₁ B hml hv
  obtain ⟨rfl, hsz, hP, hK, hZ, hD0⟩ := hv
  have hx := B.exec
  have hb := B.bytes
  have hr := B.returns
  have hlocks := B.notSynchronized
  have hts : ∀ w ∈ BIG, w.before ([.ref aX, .int x1, .int x2, .int x3] : List Value).toArray s = true := fun w h => atoms_spec (ws := w_M_kind) B.pre w (List.mem_cons_of_mem _ h)
  have hown : s.vm.findClass "FractalMapsModel" = some m.cls := findClass_of_methodNamed B.named
  subst hsz
  have hD := hD0.self (sz := s.heap.size)
  generalize hAe : va_A ws0 s.heap.size = A at hD ⊢
  have hA : ∀ q : Nat, s.heap.size ≤ q → A q := fun q h => by rw [← hAe]; exact Or.inr h
  have hS : va_S A s.heap s.heap [] := va_S.rf
  have hw : ∀ (j : Nat), j ∉ ([21, 32] : List Nat) → ws0[j]? = ws0[j]? := fun _ _ => rfl
  have hl := lv_entry ([.ref aX, .int x1, .int x2, .int x3]) (n := 4) (Nat.le_of_ble_eq_true rfl)
  rw [lg_entry_eq]
  generalize (lg_sl ([.ref aX, .int x1, .int x2, .int x3]) ++ List.replicate (4 - (lg_sl ([.ref aX, .int x1, .int x2, .int x3])).length) Slot.unset).toArray = ls at hl ⊢
  have hl : lv_has ls 4 [(0, .ref aX), (1, .int x1), (2, .int x2), (3, .int x3)] := hl
  unfold f_M_kind at hf
  refine lv_aload_n hx hb d_M_kind_0 rfl (lv_at hl 0 rfl) ?_
  refine lv_iload_n hx hb d_M_kind_1 rfl (lv_at hl 3 rfl) ?_
  obtain ⟨q712, hc, hf⟩ := z_b hf
  refine vp_callSi (z_cr (va_runS (As := [.int x3]) (rest := [.ref aX]) ⟨hx, hb, hml, hown, hts⟩ (c_M_isSize l x3 q712 hc) (cw_M_129 hts ⟨Nat.le_of_ble_eq_true rfl, Nat.le_of_ble_eq_true rfl⟩) ⟨zb0, zp0⟩ rfl rfl hl.1 rfl (lv_room (Nat.le_of_ble_eq_true rfl)) d_M_kind_2 ⟨Nat.zero_le _, Nat.zero_le _⟩)) (fun r713 hv => ?_)
  have hv := hv.symm
  subst hv
  refine lv_if_ne (tgt := 12) hx hb d_M_kind_5 (by decide) (fun hc => ?_) (fun hc => ?_)
  · have hf := z_f hc hf
    refine lv_iload_n hx hb d_M_kind_12 rfl (lv_at hl 1 rfl) ?_
    refine lv_i2l hx hb d_M_kind_13 rfl ?_
    refine lv_lconst (v := 0) hx hb d_M_kind_14 (by decide) ?_
    refine lv_aload_n hx hb d_M_kind_15 rfl (lv_at hl 0 rfl) ?_
    refine gf_M_46 (v := .int X_side) hx hb hts hown hK hP hN_X rfl d_M_kind_16 ?_
    refine lv_iload_n hx hb d_M_kind_19 rfl (lv_at hl 3 rfl) ?_
    refine lv_isub hx hb d_M_kind_20 ?_
    refine lv_i2l hx hb d_M_kind_21 rfl ?_
    obtain ⟨q714, hc, hf⟩ := z_b hf
    refine vp_callSi (z_cr (va_runS (As := [.long x1.toInt64, .long (0 : Int64), .long ((X_side - x3).toInt64)]) (rest := [.ref aX]) ⟨hx, hb, hml, hown, hts⟩ (c_M_in l x1.toInt64 (0 : Int64) ((X_side - x3).toInt64) q714 hc) (cw_M_55 hts ⟨Nat.le_of_ble_eq_true rfl, Nat.le_of_ble_eq_true rfl⟩) ⟨zb0, zp0⟩ rfl rfl hl.1 rfl (lv_room (Nat.le_of_ble_eq_true rfl)) d_M_kind_22 ⟨Nat.zero_le _, Nat.zero_le _⟩)) (fun r715 hv => ?_)
    have hv := hv.symm
    subst hv
    refine lv_if_eq (tgt := 44) hx hb d_M_kind_25 (by decide) (fun hc => ?_) (fun hc => ?_)
    · have hf := z_t hc hf
      refine lv_iconst (v := 2) hx hb d_M_kind_44 (by decide) ?_
      refine lv_goto (tgt := 49) hx hb d_M_kind_45 (by decide) ?_
      refine pf_M_50 (v := .int (2 : Int32)) hx hb hts hown hK hP hD hS hN_X rfl rfl (Nat.le_of_ble_eq_true rfl) d_M_kind_49 (fun ws H locs hP hD hS hN_X hfr => ?_)
      have hN_X : zA ws 21 (aX, .inr (7, [.int (2 : Int32), .int X_side, .ref aXpicture, .ref aXhalf, .int X_many, .ref aXblocks, .int X_found, .int X_encodedBits, .ref aXencoded, .int X_fedMany, .ref aXfed, .int X_readAt, .int X_why, .int X_tried, .int X_waiting, .ref aXpile, .int X_decoded, .ref aXnews, .ref aXolds, .ref aXhalves, .ref aXds, .ref aXrs, .ref aXbest, .long X_bestError])) := hN_X
      have hN_Xpicture := (hfr _ (by decide)).trans hN_Xpicture
      have hN_Xrs := (hfr _ (by decide)).trans hN_Xrs
      have hw := z_fr (by decide) hw hfr
      refine lv_aload_n hx hb d_M_kind_52 rfl (lv_at hl 0 rfl) ?_
      refine gf_M_50 (v := .int (2 : Int32)) hx hb hts hown hK hP hN_X rfl d_M_kind_53 ?_
      refine lv_if_le (tgt := 61) hx hb d_M_kind_56 (by decide) (fun hc => ?_) (fun hc => ?_)
      · have hf := z_t hc hf
        refine lv_aload_n hx hb d_M_kind_61 rfl (lv_at hl 0 rfl) ?_
        refine lv_iload_n hx hb d_M_kind_62 rfl (lv_at hl 1 rfl) ?_
        refine lv_iload_n hx hb d_M_kind_63 rfl (lv_at hl 2 rfl) ?_
        refine lv_iload_n hx hb d_M_kind_64 rfl (lv_at hl 3 rfl) ?_
        obtain ⟨q716, hc, hf⟩ := z_b hf
        have hFc := z_free hD hS hA
        refine va_callv (va_runV (As := [.int x1, .int x2, .int x3]) (rest := []) ⟨hx, hb, hml, hown, hts⟩ (c_M_layBlock l dC dI cI cL _ x1 x2 x3 hN_X hN_Xpicture hN_Xrs q716 hc) (cw_M_95 hts ⟨Nat.le_of_ble_eq_true rfl, Nat.le_of_ble_eq_true rfl⟩) ⟨zbM, va_recv hK hP (ci := 7) rfl hN_X, (zpM hP hK hZ hD)⟩ rfl rfl hl.1 rfl (lv_room (Nat.le_of_ble_eq_true rfl)) d_M_kind_65 ⟨Nat.zero_le _, Nat.zero_le _⟩) hS (fun q _ h => hFc q h) hFc (fun ws t H locs ht hvm hu hB hz1 hk1 hS => ?_)
        obtain ⟨hN_Xrs, hfr⟩ := hu
        obtain ⟨hP, -, hD1⟩ := hB
        rw [ht] at hP
        have hD := hD1.weaken (fun _ _ _ h => hFc _ h)
        have hN_Xrs : zA ws 32 (aXrs, .inl (cI, Xrs_n, .inl q716)) := hN_Xrs
        have hN_X := (hfr _ (by decide)).trans hN_X
        have hN_Xpicture := (hfr _ (by decide)).trans hN_Xpicture
        have hw := z_frC (by decide) hw hfr
        refine lv_aload_n hx hb d_M_kind_68 rfl (lv_at hl 0 rfl) ?_
        refine gf_M_40 (v := .ref aXrs) hx hb hts hown hK hP hN_X rfl d_M_kind_69 ?_
        refine lv_iload_n hx hb d_M_kind_72 rfl (lv_at hl 3 rfl) ?_
        obtain ⟨q717, hc, hf⟩ := z_b hf
        refine vp_callSi (z_cr (va_runS (As := [.ref aXrs, .int x3]) (rest := []) ⟨hx, hb, hml, hown, hts⟩ (c_M_classOf l dC dI cI cL x3 hN_Xrs q717 hc) (cw_M_99 hts ⟨Nat.le_of_ble_eq_true rfl, Nat.le_of_ble_eq_true rfl⟩) ⟨zbR, (zpR hP hK hZ)⟩ rfl rfl hl.1 rfl (lv_room (Nat.le_of_ble_eq_true rfl)) d_M_kind_73 ⟨Nat.zero_le _, Nat.zero_le _⟩)) (fun r718 hv => ?_)
        have hv := hv.symm
        subst hv
        obtain rfl := Option.some.inj hf
        exact W.iret hx hb hr (fun t ht hW => ⟨⟨_, ws, rfl, ⟨rfl, hN_X, hN_Xrs, hw⟩, by rw [ht]; exact hP, va_K.moved hW.alike hK, hD⟩, hS.F ht⟩) hS.2.2 d_M_kind_76
      · have hf := z_f hc hf
        refine lv_iconst (v := 0) hx hb d_M_kind_59 (by decide) ?_
        obtain rfl := Option.some.inj hf
        exact W.iret hx hb hr (fun t ht hW => ⟨⟨_, ws, rfl, ⟨rfl, hN_X, hN_Xrs, hw⟩, by rw [ht]; exact hP, va_K.moved hW.alike hK, hD⟩, hS.F ht⟩) hS.2.2 d_M_kind_60
    · have hf := z_f hc hf
      refine lv_iload_n hx hb d_M_kind_28 rfl (lv_at hl 2 rfl) ?_
      refine lv_i2l hx hb d_M_kind_29 rfl ?_
      refine lv_lconst (v := 0) hx hb d_M_kind_30 (by decide) ?_
      refine lv_aload_n hx hb d_M_kind_31 rfl (lv_at hl 0 rfl) ?_
      refine gf_M_46 (v := .int X_side) hx hb hts hown hK hP hN_X rfl d_M_kind_32 ?_
      refine lv_iload_n hx hb d_M_kind_35 rfl (lv_at hl 3 rfl) ?_
      refine lv_isub hx hb d_M_kind_36 ?_
      refine lv_i2l hx hb d_M_kind_37 rfl ?_
      obtain ⟨q719, hc, hf⟩ := z_b hf
      refine vp_callSi (z_cr (va_runS (As := [.long x2.toInt64, .long (0 : Int64), .long ((X_side - x3).toInt64)]) (rest := [.ref aX]) ⟨hx, hb, hml, hown, hts⟩ (c_M_in l x2.toInt64 (0 : Int64) ((X_side - x3).toInt64) q719 hc) (cw_M_55 hts ⟨Nat.le_of_ble_eq_true rfl, Nat.le_of_ble_eq_true rfl⟩) ⟨zb0, zp0⟩ rfl rfl hl.1 rfl (lv_room (Nat.le_of_ble_eq_true rfl)) d_M_kind_38 ⟨Nat.zero_le _, Nat.zero_le _⟩)) (fun r720 hv => ?_)
      have hv := hv.symm
      subst hv
      refine lv_if_ne (tgt := 48) hx hb d_M_kind_41 (by decide) (fun hc => ?_) (fun hc => ?_)
      · have hf := z_f hc hf
        refine lv_iconst (v := 0) hx hb d_M_kind_48 (by decide) ?_
        refine pf_M_50 (v := .int (0 : Int32)) hx hb hts hown hK hP hD hS hN_X rfl rfl (Nat.le_of_ble_eq_true rfl) d_M_kind_49 (fun ws H locs hP hD hS hN_X hfr => ?_)
        have hN_X : zA ws 21 (aX, .inr (7, [.int (0 : Int32), .int X_side, .ref aXpicture, .ref aXhalf, .int X_many, .ref aXblocks, .int X_found, .int X_encodedBits, .ref aXencoded, .int X_fedMany, .ref aXfed, .int X_readAt, .int X_why, .int X_tried, .int X_waiting, .ref aXpile, .int X_decoded, .ref aXnews, .ref aXolds, .ref aXhalves, .ref aXds, .ref aXrs, .ref aXbest, .long X_bestError])) := hN_X
        have hN_Xpicture := (hfr _ (by decide)).trans hN_Xpicture
        have hN_Xrs := (hfr _ (by decide)).trans hN_Xrs
        have hw := z_fr (by decide) hw hfr
        refine lv_aload_n hx hb d_M_kind_52 rfl (lv_at hl 0 rfl) ?_
        refine gf_M_50 (v := .int (0 : Int32)) hx hb hts hown hK hP hN_X rfl d_M_kind_53 ?_
        refine lv_if_le (tgt := 61) hx hb d_M_kind_56 (by decide) (fun hc => ?_) (fun hc => ?_)
        · have hf := z_t hc hf
          refine lv_aload_n hx hb d_M_kind_61 rfl (lv_at hl 0 rfl) ?_
          refine lv_iload_n hx hb d_M_kind_62 rfl (lv_at hl 1 rfl) ?_
          refine lv_iload_n hx hb d_M_kind_63 rfl (lv_at hl 2 rfl) ?_
          refine lv_iload_n hx hb d_M_kind_64 rfl (lv_at hl 3 rfl) ?_
          obtain ⟨q721, hc, hf⟩ := z_b hf
          have hFc := z_free hD hS hA
          refine va_callv (va_runV (As := [.int x1, .int x2, .int x3]) (rest := []) ⟨hx, hb, hml, hown, hts⟩ (c_M_layBlock l dC dI cI cL _ x1 x2 x3 hN_X hN_Xpicture hN_Xrs q721 hc) (cw_M_95 hts ⟨Nat.le_of_ble_eq_true rfl, Nat.le_of_ble_eq_true rfl⟩) ⟨zbM, va_recv hK hP (ci := 7) rfl hN_X, (zpM hP hK hZ hD)⟩ rfl rfl hl.1 rfl (lv_room (Nat.le_of_ble_eq_true rfl)) d_M_kind_65 ⟨Nat.zero_le _, Nat.zero_le _⟩) hS (fun q _ h => hFc q h) hFc (fun ws t H locs ht hvm hu hB hz1 hk1 hS => ?_)
          obtain ⟨hN_Xrs, hfr⟩ := hu
          obtain ⟨hP, -, hD1⟩ := hB
          rw [ht] at hP
          have hD := hD1.weaken (fun _ _ _ h => hFc _ h)
          have hN_Xrs : zA ws 32 (aXrs, .inl (cI, Xrs_n, .inl q721)) := hN_Xrs
          have hN_X := (hfr _ (by decide)).trans hN_X
          have hN_Xpicture := (hfr _ (by decide)).trans hN_Xpicture
          have hw := z_frC (by decide) hw hfr
          refine lv_aload_n hx hb d_M_kind_68 rfl (lv_at hl 0 rfl) ?_
          refine gf_M_40 (v := .ref aXrs) hx hb hts hown hK hP hN_X rfl d_M_kind_69 ?_
          refine lv_iload_n hx hb d_M_kind_72 rfl (lv_at hl 3 rfl) ?_
          obtain ⟨q722, hc, hf⟩ := z_b hf
          refine vp_callSi (z_cr (va_runS (As := [.ref aXrs, .int x3]) (rest := []) ⟨hx, hb, hml, hown, hts⟩ (c_M_classOf l dC dI cI cL x3 hN_Xrs q722 hc) (cw_M_99 hts ⟨Nat.le_of_ble_eq_true rfl, Nat.le_of_ble_eq_true rfl⟩) ⟨zbR, (zpR hP hK hZ)⟩ rfl rfl hl.1 rfl (lv_room (Nat.le_of_ble_eq_true rfl)) d_M_kind_73 ⟨Nat.zero_le _, Nat.zero_le _⟩)) (fun r723 hv => ?_)
          have hv := hv.symm
          subst hv
          obtain rfl := Option.some.inj hf
          exact W.iret hx hb hr (fun t ht hW => ⟨⟨_, ws, rfl, ⟨rfl, hN_X, hN_Xrs, hw⟩, by rw [ht]; exact hP, va_K.moved hW.alike hK, hD⟩, hS.F ht⟩) hS.2.2 d_M_kind_76
        · have hf := z_f hc hf
          refine lv_iconst (v := 0) hx hb d_M_kind_59 (by decide) ?_
          obtain rfl := Option.some.inj hf
          exact W.iret hx hb hr (fun t ht hW => ⟨⟨_, ws, rfl, ⟨rfl, hN_X, hN_Xrs, hw⟩, by rw [ht]; exact hP, va_K.moved hW.alike hK, hD⟩, hS.F ht⟩) hS.2.2 d_M_kind_60
      · have hf := z_t hc hf
        refine lv_iconst (v := 2) hx hb d_M_kind_44 (by decide) ?_
        refine lv_goto (tgt := 49) hx hb d_M_kind_45 (by decide) ?_
        refine pf_M_50 (v := .int (2 : Int32)) hx hb hts hown hK hP hD hS hN_X rfl rfl (Nat.le_of_ble_eq_true rfl) d_M_kind_49 (fun ws H locs hP hD hS hN_X hfr => ?_)
        have hN_X : zA ws 21 (aX, .inr (7, [.int (2 : Int32), .int X_side, .ref aXpicture, .ref aXhalf, .int X_many, .ref aXblocks, .int X_found, .int X_encodedBits, .ref aXencoded, .int X_fedMany, .ref aXfed, .int X_readAt, .int X_why, .int X_tried, .int X_waiting, .ref aXpile, .int X_decoded, .ref aXnews, .ref aXolds, .ref aXhalves, .ref aXds, .ref aXrs, .ref aXbest, .long X_bestError])) := hN_X
        have hN_Xpicture := (hfr _ (by decide)).trans hN_Xpicture
        have hN_Xrs := (hfr _ (by decide)).trans hN_Xrs
        have hw := z_fr (by decide) hw hfr
        refine lv_aload_n hx hb d_M_kind_52 rfl (lv_at hl 0 rfl) ?_
        refine gf_M_50 (v := .int (2 : Int32)) hx hb hts hown hK hP hN_X rfl d_M_kind_53 ?_
        refine lv_if_le (tgt := 61) hx hb d_M_kind_56 (by decide) (fun hc => ?_) (fun hc => ?_)
        · have hf := z_t hc hf
          refine lv_aload_n hx hb d_M_kind_61 rfl (lv_at hl 0 rfl) ?_
          refine lv_iload_n hx hb d_M_kind_62 rfl (lv_at hl 1 rfl) ?_
          refine lv_iload_n hx hb d_M_kind_63 rfl (lv_at hl 2 rfl) ?_
          refine lv_iload_n hx hb d_M_kind_64 rfl (lv_at hl 3 rfl) ?_
          obtain ⟨q724, hc, hf⟩ := z_b hf
          have hFc := z_free hD hS hA
          refine va_callv (va_runV (As := [.int x1, .int x2, .int x3]) (rest := []) ⟨hx, hb, hml, hown, hts⟩ (c_M_layBlock l dC dI cI cL _ x1 x2 x3 hN_X hN_Xpicture hN_Xrs q724 hc) (cw_M_95 hts ⟨Nat.le_of_ble_eq_true rfl, Nat.le_of_ble_eq_true rfl⟩) ⟨zbM, va_recv hK hP (ci := 7) rfl hN_X, (zpM hP hK hZ hD)⟩ rfl rfl hl.1 rfl (lv_room (Nat.le_of_ble_eq_true rfl)) d_M_kind_65 ⟨Nat.zero_le _, Nat.zero_le _⟩) hS (fun q _ h => hFc q h) hFc (fun ws t H locs ht hvm hu hB hz1 hk1 hS => ?_)
          obtain ⟨hN_Xrs, hfr⟩ := hu
          obtain ⟨hP, -, hD1⟩ := hB
          rw [ht] at hP
          have hD := hD1.weaken (fun _ _ _ h => hFc _ h)
          have hN_Xrs : zA ws 32 (aXrs, .inl (cI, Xrs_n, .inl q724)) := hN_Xrs
          have hN_X := (hfr _ (by decide)).trans hN_X
          have hN_Xpicture := (hfr _ (by decide)).trans hN_Xpicture
          have hw := z_frC (by decide) hw hfr
          refine lv_aload_n hx hb d_M_kind_68 rfl (lv_at hl 0 rfl) ?_
          refine gf_M_40 (v := .ref aXrs) hx hb hts hown hK hP hN_X rfl d_M_kind_69 ?_
          refine lv_iload_n hx hb d_M_kind_72 rfl (lv_at hl 3 rfl) ?_
          obtain ⟨q725, hc, hf⟩ := z_b hf
          refine vp_callSi (z_cr (va_runS (As := [.ref aXrs, .int x3]) (rest := []) ⟨hx, hb, hml, hown, hts⟩ (c_M_classOf l dC dI cI cL x3 hN_Xrs q725 hc) (cw_M_99 hts ⟨Nat.le_of_ble_eq_true rfl, Nat.le_of_ble_eq_true rfl⟩) ⟨zbR, (zpR hP hK hZ)⟩ rfl rfl hl.1 rfl (lv_room (Nat.le_of_ble_eq_true rfl)) d_M_kind_73 ⟨Nat.zero_le _, Nat.zero_le _⟩)) (fun r726 hv => ?_)
          have hv := hv.symm
          subst hv
          obtain rfl := Option.some.inj hf
          exact W.iret hx hb hr (fun t ht hW => ⟨⟨_, ws, rfl, ⟨rfl, hN_X, hN_Xrs, hw⟩, by rw [ht]; exact hP, va_K.moved hW.alike hK, hD⟩, hS.F ht⟩) hS.2.2 d_M_kind_76
        · have hf := z_f hc hf
          refine lv_iconst (v := 0) hx hb d_M_kind_59 (by decide) ?_
          obtain rfl := Option.some.inj hf
          exact W.iret hx hb hr (fun t ht hW => ⟨⟨_, ws, rfl, ⟨rfl, hN_X, hN_Xrs, hw⟩, by rw [ht]; exact hP, va_K.moved hW.alike hK, hD⟩, hS.F ht⟩) hS.2.2 d_M_kind_60
  · have hf := z_t hc hf
    refine lv_iconst (v := 1) hx hb d_M_kind_8 (by decide) ?_
    refine lv_goto (tgt := 49) hx hb d_M_kind_9 (by decide) ?_
    refine pf_M_50 (v := .int (1 : Int32)) hx hb hts hown hK hP hD hS hN_X rfl rfl (Nat.le_of_ble_eq_true rfl) d_M_kind_49 (fun ws H locs hP hD hS hN_X hfr => ?_)
    have hN_X : zA ws 21 (aX, .inr (7, [.int (1 : Int32), .int X_side, .ref aXpicture, .ref aXhalf, .int X_many, .ref aXblocks, .int X_found, .int X_encodedBits, .ref aXencoded, .int X_fedMany, .ref aXfed, .int X_readAt, .int X_why, .int X_tried, .int X_waiting, .ref aXpile, .int X_decoded, .ref aXnews, .ref aXolds, .ref aXhalves, .ref aXds, .ref aXrs, .ref aXbest, .long X_bestError])) := hN_X
    have hN_Xpicture := (hfr _ (by decide)).trans hN_Xpicture
    have hN_Xrs := (hfr _ (by decide)).trans hN_Xrs
    have hw := z_fr (by decide) hw hfr
    refine lv_aload_n hx hb d_M_kind_52 rfl (lv_at hl 0 rfl) ?_
    refine gf_M_50 (v := .int (1 : Int32)) hx hb hts hown hK hP hN_X rfl d_M_kind_53 ?_
    refine lv_if_le (tgt := 61) hx hb d_M_kind_56 (by decide) (fun hc => ?_) (fun hc => ?_)
    · have hf := z_t hc hf
      refine lv_aload_n hx hb d_M_kind_61 rfl (lv_at hl 0 rfl) ?_
      refine lv_iload_n hx hb d_M_kind_62 rfl (lv_at hl 1 rfl) ?_
      refine lv_iload_n hx hb d_M_kind_63 rfl (lv_at hl 2 rfl) ?_
      refine lv_iload_n hx hb d_M_kind_64 rfl (lv_at hl 3 rfl) ?_
      obtain ⟨q727, hc, hf⟩ := z_b hf
      have hFc := z_free hD hS hA
      refine va_callv (va_runV (As := [.int x1, .int x2, .int x3]) (rest := []) ⟨hx, hb, hml, hown, hts⟩ (c_M_layBlock l dC dI cI cL _ x1 x2 x3 hN_X hN_Xpicture hN_Xrs q727 hc) (cw_M_95 hts ⟨Nat.le_of_ble_eq_true rfl, Nat.le_of_ble_eq_true rfl⟩) ⟨zbM, va_recv hK hP (ci := 7) rfl hN_X, (zpM hP hK hZ hD)⟩ rfl rfl hl.1 rfl (lv_room (Nat.le_of_ble_eq_true rfl)) d_M_kind_65 ⟨Nat.zero_le _, Nat.zero_le _⟩) hS (fun q _ h => hFc q h) hFc (fun ws t H locs ht hvm hu hB hz1 hk1 hS => ?_)
      obtain ⟨hN_Xrs, hfr⟩ := hu
      obtain ⟨hP, -, hD1⟩ := hB
      rw [ht] at hP
      have hD := hD1.weaken (fun _ _ _ h => hFc _ h)
      have hN_Xrs : zA ws 32 (aXrs, .inl (cI, Xrs_n, .inl q727)) := hN_Xrs
      have hN_X := (hfr _ (by decide)).trans hN_X
      have hN_Xpicture := (hfr _ (by decide)).trans hN_Xpicture
      have hw := z_frC (by decide) hw hfr
      refine lv_aload_n hx hb d_M_kind_68 rfl (lv_at hl 0 rfl) ?_
      refine gf_M_40 (v := .ref aXrs) hx hb hts hown hK hP hN_X rfl d_M_kind_69 ?_
      refine lv_iload_n hx hb d_M_kind_72 rfl (lv_at hl 3 rfl) ?_
      obtain ⟨q728, hc, hf⟩ := z_b hf
      refine vp_callSi (z_cr (va_runS (As := [.ref aXrs, .int x3]) (rest := []) ⟨hx, hb, hml, hown, hts⟩ (c_M_classOf l dC dI cI cL x3 hN_Xrs q728 hc) (cw_M_99 hts ⟨Nat.le_of_ble_eq_true rfl, Nat.le_of_ble_eq_true rfl⟩) ⟨zbR, (zpR hP hK hZ)⟩ rfl rfl hl.1 rfl (lv_room (Nat.le_of_ble_eq_true rfl)) d_M_kind_73 ⟨Nat.zero_le _, Nat.zero_le _⟩)) (fun r729 hv => ?_)
      have hv := hv.symm
      subst hv
      obtain rfl := Option.some.inj hf
      exact W.iret hx hb hr (fun t ht hW => ⟨⟨_, ws, rfl, ⟨rfl, hN_X, hN_Xrs, hw⟩, by rw [ht]; exact hP, va_K.moved hW.alike hK, hD⟩, hS.F ht⟩) hS.2.2 d_M_kind_76
    · have hf := z_f hc hf
      refine lv_iconst (v := 0) hx hb d_M_kind_59 (by decide) ?_
      obtain rfl := Option.some.inj hf
      exact W.iret hx hb hr (fun t ht hW => ⟨⟨_, ws, rfl, ⟨rfl, hN_X, hN_Xrs, hw⟩, by rw [ht]; exact hP, va_K.moved hW.alike hK, hD⟩, hS.F ht⟩) hS.2.2 d_M_kind_60
def f_M_tried (X_tried : Int32) : Option (Int32 × Int32) := some (X_tried, (0 : Int32))
set_option maxHeartbeats 4000000 in
set_option maxRecDepth 100000 in
theorem c_M_tried (l : Launch) (dC : Nat → ClassId) (dI : Nat → Nat → Nat) (cI cL : ClassId) {ws0 : va_W} (sz : Nat) {aX aXpicture aXhalf aXblocks aXencoded aXfed aXpile aXnews aXolds aXhalves aXds aXrs aXbest : Nat} {X_code X_side X_many X_found X_encodedBits X_fedMany X_readAt X_why X_tried X_waiting X_decoded : Int32} {X_bestError : Int64} (hN_X : zA ws0 21 (aX, .inr (7, [.int X_code, .int X_side, .ref aXpicture, .ref aXhalf, .int X_many, .ref aXblocks, .int X_found, .int X_encodedBits, .ref aXencoded, .int X_fedMany, .ref aXfed, .int X_readAt, .int X_why, .int X_tried, .int X_waiting, .ref aXpile, .int X_decoded, .ref aXnews, .ref aXolds, .ref aXhalves, .ref aXds, .ref aXrs, .ref aXbest, .long X_bestError]))) (r : Int32 × Int32) (hf : f_M_tried X_tried = some r) : Met l y_M_tried w_M_tried rm_M_tried (va_Pc [.ref aX] (zM dC dI cI cL ws0 sz)) (va_Qi (fun (v : Int32) (ws' : va_W) => v = r.1 ∧ zA ws' 21 (aX, .inr (7, [.int r.2, .int X_side, .ref aXpicture, .ref aXhalf, .int X_many, .ref aXblocks, .int X_found, .int X_encodedBits, .ref aXencoded, .int X_fedMany, .ref aXfed, .int X_readAt, .int X_why, .int X_tried, .int X_waiting, .ref aXpile, .int X_decoded, .ref aXnews, .ref aXolds, .ref aXhalves, .ref aXds, .ref aXrs, .ref aXbest, .long X_bestError])) ∧ ∀ (j : Nat), j ∉ ([21] : List Nat) → ws'[j]? = ws0[j]?) (zQ dC dI cI cL (va_A ws0 sz)) (va_A ws0 sz)) 0 0 (va_A ws0 sz) := by
  refine Met.ofW (cc := b_M_tried) (maxL := 1) (ret := some .int) (by decide) rfl ?_
  intro p e s m args below meth c s₁ B hml hv
  obtain ⟨rfl, hsz, hP, hK, hZ, hD0⟩ := hv
  have hx := B.exec
  have hb := B.bytes
  have hr := B.returns
  have hlocks := B.notSynchronized
  have hts : ∀ w ∈ BIG, w.before ([.ref aX] : List Value).toArray s = true := fun w h => atoms_spec (ws := w_M_tried) B.pre w (List.mem_cons_of_mem _ h)
  have hown : s.vm.findClass "FractalMapsModel" = some m.cls := findClass_of_methodNamed B.named
  subst hsz
  have hD := hD0.self (sz := s.heap.size)
  generalize hAe : va_A ws0 s.heap.size = A at hD ⊢
  have hA : ∀ q : Nat, s.heap.size ≤ q → A q := fun q h => by rw [← hAe]; exact Or.inr h
  have hS : va_S A s.heap s.heap [] := va_S.rf
  have hw : ∀ (j : Nat), j ∉ ([21] : List Nat) → ws0[j]? = ws0[j]? := fun _ _ => rfl
  have hl := lv_entry ([.ref aX]) (n := 1) (Nat.le_of_ble_eq_true rfl)
  rw [lg_entry_eq]
  generalize (lg_sl ([.ref aX]) ++ List.replicate (1 - (lg_sl ([.ref aX])).length) Slot.unset).toArray = ls at hl ⊢
  have hl : lv_has ls 1 [(0, .ref aX)] := hl
  unfold f_M_tried at hf
  refine lv_aload_n hx hb d_M_tried_0 rfl (lv_at hl 0 rfl) ?_
  refine lv_iconst (v := 0) hx hb d_M_tried_1 (by decide) ?_
  refine pf_M_50 (v := .int (0 : Int32)) hx hb hts hown hK hP hD hS hN_X rfl rfl (Nat.le_of_ble_eq_true rfl) d_M_tried_2 (fun ws H locs hP hD hS hN_X hfr => ?_)
  have hN_X : zA ws 21 (aX, .inr (7, [.int (0 : Int32), .int X_side, .ref aXpicture, .ref aXhalf, .int X_many, .ref aXblocks, .int X_found, .int X_encodedBits, .ref aXencoded, .int X_fedMany, .ref aXfed, .int X_readAt, .int X_why, .int X_tried, .int X_waiting, .ref aXpile, .int X_decoded, .ref aXnews, .ref aXolds, .ref aXhalves, .ref aXds, .ref aXrs, .ref aXbest, .long X_bestError])) := hN_X
  have hw := z_fr (by decide) hw hfr
  refine lv_aload_n hx hb d_M_tried_5 rfl (lv_at hl 0 rfl) ?_
  refine gf_M_108 (v := .int X_tried) hx hb hts hown hK hP hN_X rfl d_M_tried_6 ?_
  obtain rfl := Option.some.inj hf
  exact W.iret hx hb hr (fun t ht hW => ⟨⟨_, ws, rfl, ⟨rfl, hN_X, hw⟩, by rw [ht]; exact hP, va_K.moved hW.alike hK, hD⟩, hS.F ht⟩) hS.2.2 d_M_tried_9
def f_M_told (x1 : Int32) (X_side : Int32) (X_many : Int32) (X_encodedBits : Int32) (X_fedMany : Int32) (X_decoded : Int32) : Option (Int32 × Int32) := if x1 = (0 : Int32) then (some (X_side, (0 : Int32))) else (if x1 = (1 : Int32) then (some (X_many, (0 : Int32))) else (if x1 = (2 : Int32) then ((f_M_bytes X_encodedBits).bind (fun q730 => some (q730, (0 : Int32)))) else (if x1 = (3 : Int32) then (some (X_fedMany, (0 : Int32))) else (if x1 = (4 : Int32) then (some (X_decoded, (0 : Int32))) else (some (((-1) : Int32), (0 : Int32)))))))
set_option maxHeartbeats 4000000 in
set_option maxRecDepth 100000 in
theorem c_M_told (l : Launch) (dC : Nat → ClassId) (dI : Nat → Nat → Nat) (cI cL : ClassId) {ws0 : va_W} (sz : Nat) {aX aXpicture aXhalf aXblocks aXencoded aXfed aXpile aXnews aXolds aXhalves aXds aXrs aXbest : Nat} {X_code X_side X_many X_found X_encodedBits X_fedMany X_readAt X_why X_tried X_waiting X_decoded : Int32} {X_bestError : Int64} (x1 : Int32) (hN_X : zA ws0 21 (aX, .inr (7, [.int X_code, .int X_side, .ref aXpicture, .ref aXhalf, .int X_many, .ref aXblocks, .int X_found, .int X_encodedBits, .ref aXencoded, .int X_fedMany, .ref aXfed, .int X_readAt, .int X_why, .int X_tried, .int X_waiting, .ref aXpile, .int X_decoded, .ref aXnews, .ref aXolds, .ref aXhalves, .ref aXds, .ref aXrs, .ref aXbest, .long X_bestError]))) (r : Int32 × Int32) (hf : f_M_told x1 X_side X_many X_encodedBits X_fedMany X_decoded = some r) : Met l y_M_told w_M_told rm_M_told (va_Pc [.ref aX, .int x1] (zM dC dI cI cL ws0 sz)) (va_Qi (fun (v : Int32) (ws' : va_W) => v = r.1 ∧ zA ws' 21 (aX, .inr (7, [.int r.2, .int X_side, .ref aXpicture, .ref aXhalf, .int X_many, .ref aXblocks, .int X_found, .int X_encodedBits, .ref aXencoded, .int X_fedMany, .ref aXfed, .int X_readAt, .int X_why, .int X_tried, .int X_waiting, .ref aXpile, .int X_decoded, .ref aXnews, .ref aXolds, .ref aXhalves, .ref aXds, .ref aXrs, .ref aXbest, .long X_bestError])) ∧ ∀ (j : Nat), j ∉ ([21] : List Nat) → ws'[j]? = ws0[j]?) (zQ dC dI cI cL (va_A ws0 sz)) (va_A ws0 sz)) 0 0 (va_A ws0 sz) := by
  refine Met.ofW (cc := b_M_told) (maxL := 2) (ret := some .int) (by decide) rfl ?_
  intro p e s m args below meth c s₁ B hml hv
  obtain ⟨rfl, hsz, hP, hK, hZ, hD0⟩ := hv
  have hx := B.exec
  have hb := B.bytes
  have hr := B.returns
  have hlocks := B.notSynchronized
  have hts : ∀ w ∈ BIG, w.before ([.ref aX, .int x1] : List Value).toArray s = true := fun w h => atoms_spec (ws := w_M_told) B.pre w (List.mem_cons_of_mem _ h)
  have hown : s.vm.findClass "FractalMapsModel" = some m.cls := findClass_of_methodNamed B.named
  subst hsz
  have hD := hD0.self (sz := s.heap.size)
  generalize hAe : va_A ws0 s.heap.size = A at hD ⊢
  have hA : ∀ q : Nat, s.heap.size ≤ q → A q := fun q h => by rw [← hAe]; exact Or.inr h
  have hS : va_S A s.heap s.heap [] := va_S.rf
  have hw : ∀ (j : Nat), j ∉ ([21] : List Nat) → ws0[j]? = ws0[j]? := fun _ _ => rfl
  have hl := lv_entry ([.ref aX, .int x1]) (n := 2) (Nat.le_of_ble_eq_true rfl)
  rw [lg_entry_eq]
  generalize (lg_sl ([.ref aX, .int x1]) ++ List.replicate (2 - (lg_sl ([.ref aX, .int x1])).length) Slot.unset).toArray = ls at hl ⊢
  have hl : lv_has ls 2 [(0, .ref aX), (1, .int x1)] := hl
  unfold f_M_told at hf
  refine lv_aload_n hx hb d_M_told_0 rfl (lv_at hl 0 rfl) ?_
  refine lv_iconst (v := 0) hx hb d_M_told_1 (by decide) ?_
  refine pf_M_50 (v := .int (0 : Int32)) hx hb hts hown hK hP hD hS hN_X rfl rfl (Nat.le_of_ble_eq_true rfl) d_M_told_2 (fun ws H locs hP hD hS hN_X hfr => ?_)
  have hN_X : zA ws 21 (aX, .inr (7, [.int (0 : Int32), .int X_side, .ref aXpicture, .ref aXhalf, .int X_many, .ref aXblocks, .int X_found, .int X_encodedBits, .ref aXencoded, .int X_fedMany, .ref aXfed, .int X_readAt, .int X_why, .int X_tried, .int X_waiting, .ref aXpile, .int X_decoded, .ref aXnews, .ref aXolds, .ref aXhalves, .ref aXds, .ref aXrs, .ref aXbest, .long X_bestError])) := hN_X
  have hw := z_fr (by decide) hw hfr
  refine lv_iload_n hx hb d_M_told_5 rfl (lv_at hl 1 rfl) ?_
  by_cases hc_0 : x1 = (0 : Int32)
  · have hf := z_t hc_0 hf
    refine lv_tableIn (tgt := 40) hx hb d_M_told_6 (by rw [hc_0]; decide) (by rw [hc_0]; decide) (by rw [hc_0]; rfl) (by decide) ?_
    refine lv_aload_n hx hb d_M_told_40 rfl (lv_at hl 0 rfl) ?_
    refine gf_M_46 (v := .int X_side) hx hb hts hown hK hP hN_X rfl d_M_told_41 ?_
    obtain rfl := Option.some.inj hf
    exact W.iret hx hb hr (fun t ht hW => ⟨⟨_, ws, rfl, ⟨rfl, hN_X, hw⟩, by rw [ht]; exact hP, va_K.moved hW.alike hK, hD⟩, hS.F ht⟩) hS.2.2 d_M_told_44
  have hf := z_f hc_0 hf
  have he_0 : x1.toInt ≠ 0 := fun h => hc_0 (Int32.toInt_inj.mp (h.trans (by decide)))
  by_cases hc_1 : x1 = (1 : Int32)
  · have hf := z_t hc_1 hf
    refine lv_tableIn (tgt := 45) hx hb d_M_told_6 (by rw [hc_1]; decide) (by rw [hc_1]; decide) (by rw [hc_1]; rfl) (by decide) ?_
    refine lv_aload_n hx hb d_M_told_45 rfl (lv_at hl 0 rfl) ?_
    refine gf_M_123 (v := .int X_many) hx hb hts hown hK hP hN_X rfl d_M_told_46 ?_
    obtain rfl := Option.some.inj hf
    exact W.iret hx hb hr (fun t ht hW => ⟨⟨_, ws, rfl, ⟨rfl, hN_X, hw⟩, by rw [ht]; exact hP, va_K.moved hW.alike hK, hD⟩, hS.F ht⟩) hS.2.2 d_M_told_49
  have hf := z_f hc_1 hf
  have he_1 : x1.toInt ≠ 1 := fun h => hc_1 (Int32.toInt_inj.mp (h.trans (by decide)))
  by_cases hc_2 : x1 = (2 : Int32)
  · have hf := z_t hc_2 hf
    refine lv_tableIn (tgt := 50) hx hb d_M_told_6 (by rw [hc_2]; decide) (by rw [hc_2]; decide) (by rw [hc_2]; rfl) (by decide) ?_
    refine lv_aload_n hx hb d_M_told_50 rfl (lv_at hl 0 rfl) ?_
    obtain ⟨q730, hc, hf⟩ := z_b hf
    refine vp_callSi (z_cr (va_runV (As := []) (rest := []) ⟨hx, hb, hml, hown, hts⟩ (c_M_bytes l dC dI cI cL hN_X q730 hc) (cw_M_159 hts ⟨Nat.le_of_ble_eq_true rfl, Nat.le_of_ble_eq_true rfl⟩) ⟨zbR, va_recv hK hP (ci := 7) rfl hN_X, (zpR hP hK hZ)⟩ rfl rfl hl.1 rfl (lv_room (Nat.le_of_ble_eq_true rfl)) d_M_told_51 ⟨Nat.zero_le _, Nat.zero_le _⟩)) (fun r731 hv => ?_)
    have hv := hv.symm
    subst hv
    obtain rfl := Option.some.inj hf
    exact W.iret hx hb hr (fun t ht hW => ⟨⟨_, ws, rfl, ⟨rfl, hN_X, hw⟩, by rw [ht]; exact hP, va_K.moved hW.alike hK, hD⟩, hS.F ht⟩) hS.2.2 d_M_told_54
  have hf := z_f hc_2 hf
  have he_2 : x1.toInt ≠ 2 := fun h => hc_2 (Int32.toInt_inj.mp (h.trans (by decide)))
  by_cases hc_3 : x1 = (3 : Int32)
  · have hf := z_t hc_3 hf
    refine lv_tableIn (tgt := 55) hx hb d_M_told_6 (by rw [hc_3]; decide) (by rw [hc_3]; decide) (by rw [hc_3]; rfl) (by decide) ?_
    refine lv_aload_n hx hb d_M_told_55 rfl (lv_at hl 0 rfl) ?_
    refine gf_M_163 (v := .int X_fedMany) hx hb hts hown hK hP hN_X rfl d_M_told_56 ?_
    obtain rfl := Option.some.inj hf
    exact W.iret hx hb hr (fun t ht hW => ⟨⟨_, ws, rfl, ⟨rfl, hN_X, hw⟩, by rw [ht]; exact hP, va_K.moved hW.alike hK, hD⟩, hS.F ht⟩) hS.2.2 d_M_told_59
  have hf := z_f hc_3 hf
  have he_3 : x1.toInt ≠ 3 := fun h => hc_3 (Int32.toInt_inj.mp (h.trans (by decide)))
  by_cases hc_4 : x1 = (4 : Int32)
  · have hf := z_t hc_4 hf
    refine lv_tableIn (tgt := 60) hx hb d_M_told_6 (by rw [hc_4]; decide) (by rw [hc_4]; decide) (by rw [hc_4]; rfl) (by decide) ?_
    refine lv_aload_n hx hb d_M_told_60 rfl (lv_at hl 0 rfl) ?_
    refine gf_M_185 (v := .int X_decoded) hx hb hts hown hK hP hN_X rfl d_M_told_61 ?_
    obtain rfl := Option.some.inj hf
    exact W.iret hx hb hr (fun t ht hW => ⟨⟨_, ws, rfl, ⟨rfl, hN_X, hw⟩, by rw [ht]; exact hP, va_K.moved hW.alike hK, hD⟩, hS.F ht⟩) hS.2.2 d_M_told_64
  have hf := z_f hc_4 hf
  have he_4 : x1.toInt ≠ 4 := fun h => hc_4 (Int32.toInt_inj.mp (h.trans (by decide)))
  refine lv_tableOut (tgt := 65) hx hb d_M_told_6 (by omega) (by decide) ?_
  refine lv_iconst (v := (-1)) hx hb d_M_told_65 (by decide) ?_
  obtain rfl := Option.some.inj hf
  exact W.iret hx hb hr (fun t ht hW => ⟨⟨_, ws, rfl, ⟨rfl, hN_X, hw⟩, by rw [ht]; exact hP, va_K.moved hW.alike hK, hD⟩, hS.F ht⟩) hS.2.2 d_M_told_66
def f_M_clear_7 (Xpicture_n : Nat) : Nat → Int32 → (Nat → Int32) → Option (Int32 × (Nat → Int32))
  | 0, _, _ => none
  | n + 1, v1, Xpicture_f => if (1024 : Int32) ≤ v1 then (some (v1, Xpicture_f)) else (if v1 < 0 ∨ Xpicture_n ≤ v1.toNatClampNeg then none else (f_M_clear_7 Xpicture_n n (v1 + 1) (upd Xpicture_f v1.toNatClampNeg (0 : Int32))))
def f_M_clear (Xpicture_n : Nat) (Xpicture_f : Nat → Int32) : Option (Int32 × Int32 × Int32 × Int32 × Int32 × Int32 × (Nat → Int32)) := (f_M_clear_7 Xpicture_n FU (0 : Int32) Xpicture_f).bind (fun q732 => some ((0 : Int32), (0 : Int32), (0 : Int32), (0 : Int32), (0 : Int32), (0 : Int32), q732.2))
set_option maxHeartbeats 4000000 in
set_option maxRecDepth 100000 in
theorem c_M_clear (l : Launch) (dC : Nat → ClassId) (dI : Nat → Nat → Nat) (cI cL : ClassId) {ws0 : va_W} (sz : Nat) {aX aXpicture aXhalf aXblocks aXencoded aXfed aXpile aXnews aXolds aXhalves aXds aXrs aXbest : Nat} {X_code X_side X_many X_found X_encodedBits X_fedMany X_readAt X_why X_tried X_waiting X_decoded : Int32} {X_bestError : Int64} {Xpicture_n : Nat} {Xpicture_f : Nat → Int32} (hN_X : zA ws0 21 (aX, .inr (7, [.int X_code, .int X_side, .ref aXpicture, .ref aXhalf, .int X_many, .ref aXblocks, .int X_found, .int X_encodedBits, .ref aXencoded, .int X_fedMany, .ref aXfed, .int X_readAt, .int X_why, .int X_tried, .int X_waiting, .ref aXpile, .int X_decoded, .ref aXnews, .ref aXolds, .ref aXhalves, .ref aXds, .ref aXrs, .ref aXbest, .long X_bestError]))) (hN_Xpicture : zA ws0 22 (aXpicture, .inl (cI, Xpicture_n, .inl Xpicture_f))) (r : Int32 × Int32 × Int32 × Int32 × Int32 × Int32 × (Nat → Int32)) (hf : f_M_clear Xpicture_n Xpicture_f = some r) : Met l y_M_clear w_M_clear rm_M_clear (va_Pc [.ref aX] (zM dC dI cI cL ws0 sz)) (va_Qv (fun ws' : va_W => zA ws' 21 (aX, .inr (7, [.int r.1, .int X_side, .ref aXpicture, .ref aXhalf, .int r.2.1, .ref aXblocks, .int X_found, .int r.2.2.1, .ref aXencoded, .int r.2.2.2.1, .ref aXfed, .int X_readAt, .int X_why, .int r.2.2.2.2.1, .int X_waiting, .ref aXpile, .int r.2.2.2.2.2.1, .ref aXnews, .ref aXolds, .ref aXhalves, .ref aXds, .ref aXrs, .ref aXbest, .long X_bestError])) ∧ zA ws' 22 (aXpicture, .inl (cI, Xpicture_n, .inl r.2.2.2.2.2.2)) ∧ ∀ (j : Nat), j ∉ ([21, 22] : List Nat) → ws'[j]? = ws0[j]?) (zQ dC dI cI cL (va_A ws0 sz)) (va_A ws0 sz)) 0 0 (va_A ws0 sz) := by
  refine Met.ofW (cc := b_M_clear) (maxL := 2) (ret := none) (by decide) rfl ?_
  intro p e s m args below meth c s₁ B hml hv
  obtain ⟨rfl, hsz, hP, hK, hZ, hD0⟩ := hv
  have hx := B.exec
  have hb := B.bytes
  have hr := B.returns
  have hlocks := B.notSynchronized
  have hts : ∀ w ∈ BIG, w.before ([.ref aX] : List Value).toArray s = true := fun w h => atoms_spec (ws := w_M_clear) B.pre w (List.mem_cons_of_mem _ h)
  have hown : s.vm.findClass "FractalMapsModel" = some m.cls := findClass_of_methodNamed B.named
  subst hsz
  have hD := hD0.self (sz := s.heap.size)
  generalize hAe : va_A ws0 s.heap.size = A at hD ⊢
  have hA : ∀ q : Nat, s.heap.size ≤ q → A q := fun q h => by rw [← hAe]; exact Or.inr h
  have hS : va_S A s.heap s.heap [] := va_S.rf
  have hw : ∀ (j : Nat), j ∉ ([21, 22] : List Nat) → ws0[j]? = ws0[j]? := fun _ _ => rfl
  have hl := lv_entry ([.ref aX]) (n := 2) (Nat.le_of_ble_eq_true rfl)
  rw [lg_entry_eq]
  generalize (lg_sl ([.ref aX]) ++ List.replicate (2 - (lg_sl ([.ref aX])).length) Slot.unset).toArray = ls at hl ⊢
  have hl : lv_has ls 2 [(0, .ref aX)] := hl
  unfold f_M_clear at hf
  refine lv_aload_n hx hb d_M_clear_0 rfl (lv_at hl 0 rfl) ?_
  refine lv_iconst (v := 0) hx hb d_M_clear_1 (by decide) ?_
  refine pf_M_50 (v := .int (0 : Int32)) hx hb hts hown hK hP hD hS hN_X rfl rfl (Nat.le_of_ble_eq_true rfl) d_M_clear_2 (fun ws H locs hP hD hS hN_X hfr => ?_)
  have hN_X : zA ws 21 (aX, .inr (7, [.int (0 : Int32), .int X_side, .ref aXpicture, .ref aXhalf, .int X_many, .ref aXblocks, .int X_found, .int X_encodedBits, .ref aXencoded, .int X_fedMany, .ref aXfed, .int X_readAt, .int X_why, .int X_tried, .int X_waiting, .ref aXpile, .int X_decoded, .ref aXnews, .ref aXolds, .ref aXhalves, .ref aXds, .ref aXrs, .ref aXbest, .long X_bestError])) := hN_X
  have hN_Xpicture := (hfr _ (by decide)).trans hN_Xpicture
  have hw := z_fr (by decide) hw hfr
  refine lv_iconst (v := 0) hx hb d_M_clear_5 (by decide) ?_
  refine lv_istore_n (lv' := [(1, .int (0 : Int32)), (0, .ref aX)]) hx hb d_M_clear_6 rfl hl (by decide) rfl (fun ls hl => ?_)
  have lp735 : ∀ (Qx : State → Prop) (n : Nat) (v1_733 : Int32) (Xpicture_f_734 : Nat → Int32) (ws : va_W) (H : Heap) (locs : List Loc) (ls : Array Slot) (q : Int32 × (Nat → Int32)) (hf : f_M_clear_7 Xpicture_n n v1_733 Xpicture_f_734 = some q) (hl : lv_has ls 2 [(0, .ref aX), (1, .int v1_733)]) (hP : va_P (dC, dI) classes ws H) (hD : va_D A ws) (hS : va_S A s.heap H locs) (hN_X : zA ws 21 (aX, .inr (7, [.int (0 : Int32), .int X_side, .ref aXpicture, .ref aXhalf, .int X_many, .ref aXblocks, .int X_found, .int X_encodedBits, .ref aXencoded, .int X_fedMany, .ref aXfed, .int X_readAt, .int X_why, .int X_tried, .int X_waiting, .ref aXpile, .int X_decoded, .ref aXnews, .ref aXolds, .ref aXhalves, .ref aXds, .ref aXrs, .ref aXbest, .long X_bestError]))) (hN_Xpicture : zA ws 22 (aXpicture, .inl (cI, Xpicture_n, .inl Xpicture_f_734))) (hw : ∀ (j : Nat), j ∉ ([21, 22] : List Nat) → ws[j]? = ws0[j]?) (kt0 : ∀ (ws : va_W) (H : Heap) (locs : List Loc) (ls : Array Slot), lv_has ls 2 [(0, .ref aX), (1, .int q.1)] → (va_P (dC, dI) classes ws H) → (va_D A ws) → (va_S A s.heap H locs) → (zA ws 21 (aX, .inr (7, [.int (0 : Int32), .int X_side, .ref aXpicture, .ref aXhalf, .int X_many, .ref aXblocks, .int X_found, .int X_encodedBits, .ref aXencoded, .int X_fedMany, .ref aXfed, .int X_readAt, .int X_why, .int X_tried, .int X_waiting, .ref aXpile, .int X_decoded, .ref aXnews, .ref aXolds, .ref aXhalves, .ref aXds, .ref aXrs, .ref aXbest, .long X_bestError]))) → (zA ws 22 (aXpicture, .inl (cI, Xpicture_n, .inl q.2))) → (∀ (j : Nat), j ∉ ([21, 22] : List Nat) → ws[j]? = ws0[j]?) → W p l e (headSpec w_M_clear rm_M_clear).room s m ([.ref aX] : List Value).toArray below meth c H locs 0 0 Qx (F0 m 27 ls [])), W p l e (headSpec w_M_clear rm_M_clear).room s m ([.ref aX] : List Value).toArray below meth c H locs 0 0 Qx (F0 m 7 ls []) := by
    intro Qx n
    induction n with
    | zero => intro v1_733 Xpicture_f_734 ws H locs ls q hf; cases hf
    | succ n ih =>
      intro v1_733 Xpicture_f_734 ws H locs ls q hf hl hP hD hS hN_X hN_Xpicture hw kt0
      rw [f_M_clear_7] at hf
      refine lv_iload_n hx hb d_M_clear_7 rfl (lv_at hl 1 rfl) ?_
      refine lv_sipush (v := 1024) hx hb d_M_clear_8 (by decide) ?_
      refine lv_icmp_ge (tgt := 27) hx hb d_M_clear_11 (by decide) (fun hc => ?_) (fun hc => ?_)
      · have hf := z_t hc hf
        obtain rfl := Option.some.inj hf
        exact kt0 _ _ _ ls (lv_sub hl [0, 1] rfl) hP hD hS hN_X hN_Xpicture hw
      · have hf := z_f hc hf
        refine lv_aload_n hx hb d_M_clear_14 rfl (lv_at hl 0 rfl) ?_
        refine gf_M_7 (v := .ref aXpicture) hx hb hts hown hK hP hN_X rfl d_M_clear_15 ?_
        refine lv_iload_n hx hb d_M_clear_18 rfl (lv_at hl 1 rfl) ?_
        refine lv_iconst (v := 0) hx hb d_M_clear_19 (by decide) ?_
        obtain ⟨hin, hf⟩ := z_no hf
        refine z_iast hx hb hK hP hD hS hN_Xpicture rfl hin d_M_clear_20 (fun ws H locs hP hD hS hN_Xpicture hfr => ?_)
        have hN_Xpicture : zA ws 22 (aXpicture, .inl (cI, Xpicture_n, .inl (upd Xpicture_f_734 v1_733.toNatClampNeg (0 : Int32)))) := hN_Xpicture
        have hN_X := (hfr _ (by decide)).trans hN_X
        have hw := z_fr (by decide) hw hfr
        refine lv_iinc (v := (v1_733 + 1)) (lv' := [(1, .int (v1_733 + 1)), (0, .ref aX)]) hx hb d_M_clear_21 hl (k := 1) rfl rfl (by decide) rfl (fun ls hl => ?_)
        refine lv_goto (tgt := 7) hx hb d_M_clear_24 (by decide) ?_
        exact ih (v1_733 + 1) (upd Xpicture_f_734 v1_733.toNatClampNeg (0 : Int32)) _ _ _ ls _ hf (lv_sub hl [1, 0] rfl) hP hD hS hN_X hN_Xpicture hw kt0
  obtain ⟨q732, hc, hf⟩ := z_b hf
  refine lp735 _ FU (0 : Int32) Xpicture_f _ _ _ ls q732 hc (lv_sub hl [1, 0] rfl) hP hD hS hN_X hN_Xpicture hw (fun ws H locs ls hl hP hD hS hN_X hN_Xpicture hw => ?_)
  refine lv_aload_n hx hb d_M_clear_27 rfl (lv_at hl 0 rfl) ?_
  refine lv_iconst (v := 0) hx hb d_M_clear_28 (by decide) ?_
  refine pf_M_123 (v := .int (0 : Int32)) hx hb hts hown hK hP hD hS hN_X rfl rfl (Nat.le_of_ble_eq_true rfl) d_M_clear_29 (fun ws H locs hP hD hS hN_X hfr => ?_)
  have hN_X : zA ws 21 (aX, .inr (7, [.int (0 : Int32), .int X_side, .ref aXpicture, .ref aXhalf, .int (0 : Int32), .ref aXblocks, .int X_found, .int X_encodedBits, .ref aXencoded, .int X_fedMany, .ref aXfed, .int X_readAt, .int X_why, .int X_tried, .int X_waiting, .ref aXpile, .int X_decoded, .ref aXnews, .ref aXolds, .ref aXhalves, .ref aXds, .ref aXrs, .ref aXbest, .long X_bestError])) := hN_X
  have hN_Xpicture := (hfr _ (by decide)).trans hN_Xpicture
  have hw := z_fr (by decide) hw hfr
  refine lv_aload_n hx hb d_M_clear_32 rfl (lv_at hl 0 rfl) ?_
  refine lv_iconst (v := 0) hx hb d_M_clear_33 (by decide) ?_
  refine pf_M_126 (v := .int (0 : Int32)) hx hb hts hown hK hP hD hS hN_X rfl rfl (Nat.le_of_ble_eq_true rfl) d_M_clear_34 (fun ws H locs hP hD hS hN_X hfr => ?_)
  have hN_X : zA ws 21 (aX, .inr (7, [.int (0 : Int32), .int X_side, .ref aXpicture, .ref aXhalf, .int (0 : Int32), .ref aXblocks, .int X_found, .int (0 : Int32), .ref aXencoded, .int X_fedMany, .ref aXfed, .int X_readAt, .int X_why, .int X_tried, .int X_waiting, .ref aXpile, .int X_decoded, .ref aXnews, .ref aXolds, .ref aXhalves, .ref aXds, .ref aXrs, .ref aXbest, .long X_bestError])) := hN_X
  have hN_Xpicture := (hfr _ (by decide)).trans hN_Xpicture
  have hw := z_fr (by decide) hw hfr
  refine lv_aload_n hx hb d_M_clear_37 rfl (lv_at hl 0 rfl) ?_
  refine lv_iconst (v := 0) hx hb d_M_clear_38 (by decide) ?_
  refine pf_M_163 (v := .int (0 : Int32)) hx hb hts hown hK hP hD hS hN_X rfl rfl (Nat.le_of_ble_eq_true rfl) d_M_clear_39 (fun ws H locs hP hD hS hN_X hfr => ?_)
  have hN_X : zA ws 21 (aX, .inr (7, [.int (0 : Int32), .int X_side, .ref aXpicture, .ref aXhalf, .int (0 : Int32), .ref aXblocks, .int X_found, .int (0 : Int32), .ref aXencoded, .int (0 : Int32), .ref aXfed, .int X_readAt, .int X_why, .int X_tried, .int X_waiting, .ref aXpile, .int X_decoded, .ref aXnews, .ref aXolds, .ref aXhalves, .ref aXds, .ref aXrs, .ref aXbest, .long X_bestError])) := hN_X
  have hN_Xpicture := (hfr _ (by decide)).trans hN_Xpicture
  have hw := z_fr (by decide) hw hfr
  refine lv_aload_n hx hb d_M_clear_42 rfl (lv_at hl 0 rfl) ?_
  refine lv_iconst (v := 0) hx hb d_M_clear_43 (by decide) ?_
  refine pf_M_108 (v := .int (0 : Int32)) hx hb hts hown hK hP hD hS hN_X rfl rfl (Nat.le_of_ble_eq_true rfl) d_M_clear_44 (fun ws H locs hP hD hS hN_X hfr => ?_)
  have hN_X : zA ws 21 (aX, .inr (7, [.int (0 : Int32), .int X_side, .ref aXpicture, .ref aXhalf, .int (0 : Int32), .ref aXblocks, .int X_found, .int (0 : Int32), .ref aXencoded, .int (0 : Int32), .ref aXfed, .int X_readAt, .int X_why, .int (0 : Int32), .int X_waiting, .ref aXpile, .int X_decoded, .ref aXnews, .ref aXolds, .ref aXhalves, .ref aXds, .ref aXrs, .ref aXbest, .long X_bestError])) := hN_X
  have hN_Xpicture := (hfr _ (by decide)).trans hN_Xpicture
  have hw := z_fr (by decide) hw hfr
  refine lv_aload_n hx hb d_M_clear_47 rfl (lv_at hl 0 rfl) ?_
  refine lv_iconst (v := 0) hx hb d_M_clear_48 (by decide) ?_
  refine pf_M_185 (v := .int (0 : Int32)) hx hb hts hown hK hP hD hS hN_X rfl rfl (Nat.le_of_ble_eq_true rfl) d_M_clear_49 (fun ws H locs hP hD hS hN_X hfr => ?_)
  have hN_X : zA ws 21 (aX, .inr (7, [.int (0 : Int32), .int X_side, .ref aXpicture, .ref aXhalf, .int (0 : Int32), .ref aXblocks, .int X_found, .int (0 : Int32), .ref aXencoded, .int (0 : Int32), .ref aXfed, .int X_readAt, .int X_why, .int (0 : Int32), .int X_waiting, .ref aXpile, .int (0 : Int32), .ref aXnews, .ref aXolds, .ref aXhalves, .ref aXds, .ref aXrs, .ref aXbest, .long X_bestError])) := hN_X
  have hN_Xpicture := (hfr _ (by decide)).trans hN_Xpicture
  have hw := z_fr (by decide) hw hfr
  obtain rfl := Option.some.inj hf
  exact W.vret hx hb hr (fun t ht hW => ⟨⟨ws, rfl, (by dsimp only; exact ⟨hN_X, hN_Xpicture, hw⟩), by rw [ht]; exact hP, va_K.moved hW.alike hK, hD⟩, hS.F ht⟩) hS.2.2 d_M_clear_52
def f_M_bitAt (x1 : Int32) (Xfed_n : Nat) (Xfed_f : Nat → Int32) : Option (Int32) := if (x1 / (8 : Int32)) < 0 ∨ Xfed_n ≤ (x1 / (8 : Int32)).toNatClampNeg then none else (some (((Xfed_f (x1 / (8 : Int32)).toNatClampNeg) >>> (((7 : Int32) - (x1 - x1 / (8 : Int32) * (8 : Int32))) &&& 31)) &&& (1 : Int32)))
set_option maxHeartbeats 4000000 in
set_option maxRecDepth 100000 in
theorem c_M_bitAt (l : Launch) (dC : Nat → ClassId) (dI : Nat → Nat → Nat) (cI cL : ClassId) {ws : va_W} {aX aXpicture aXhalf aXblocks aXencoded aXfed aXpile aXnews aXolds aXhalves aXds aXrs aXbest : Nat} {X_code X_side X_many X_found X_encodedBits X_fedMany X_readAt X_why X_tried X_waiting X_decoded : Int32} {X_bestError : Int64} {Xfed_n : Nat} {Xfed_f : Nat → Int32} (x1 : Int32) (hN_X : zA ws 21 (aX, .inr (7, [.int X_code, .int X_side, .ref aXpicture, .ref aXhalf, .int X_many, .ref aXblocks, .int X_found, .int X_encodedBits, .ref aXencoded, .int X_fedMany, .ref aXfed, .int X_readAt, .int X_why, .int X_tried, .int X_waiting, .ref aXpile, .int X_decoded, .ref aXnews, .ref aXolds, .ref aXhalves, .ref aXds, .ref aXrs, .ref aXbest, .long X_bestError]))) (hN_Xfed : zA ws 26 (aXfed, .inl (cI, Xfed_n, .inl Xfed_f))) (r : Int32) (hf : f_M_bitAt x1 Xfed_n Xfed_f = some r) : Met l y_M_bitAt w_M_bitAt rm_M_bitAt (va_Pc [.ref aX, .int x1] (zR dC dI cI cL ws)) (vp_Si (fun v => v = r)) 0 0 (fun _ => False) := by
  refine Met.ofW (cc := b_M_bitAt) (maxL := 2) (ret := some .int) (by decide) rfl ?_
  intro p e s m args below meth c s₁ B hml hv
  obtain ⟨rfl, hP, hK, hZ⟩ := hv
  have hx := B.exec
  have hb := B.bytes
  have hr := B.returns
  have hlocks := B.notSynchronized
  have hts : ∀ w ∈ BIG, w.before ([.ref aX, .int x1] : List Value).toArray s = true := fun w h => atoms_spec (ws := w_M_bitAt) B.pre w (List.mem_cons_of_mem _ h)
  have hown : s.vm.findClass "FractalMapsModel" = some m.cls := findClass_of_methodNamed B.named
  have hl := lv_entry ([.ref aX, .int x1]) (n := 2) (Nat.le_of_ble_eq_true rfl)
  rw [lg_entry_eq]
  generalize (lg_sl ([.ref aX, .int x1]) ++ List.replicate (2 - (lg_sl ([.ref aX, .int x1])).length) Slot.unset).toArray = ls at hl ⊢
  have hl : lv_has ls 2 [(0, .ref aX), (1, .int x1)] := hl
  unfold f_M_bitAt at hf
  refine lv_aload_n hx hb d_M_bitAt_0 rfl (lv_at hl 0 rfl) ?_
  refine gf_M_22 (v := .ref aXfed) hx hb hts hown hK hP hN_X rfl d_M_bitAt_1 ?_
  refine lv_iload_n hx hb d_M_bitAt_4 rfl (lv_at hl 1 rfl) ?_
  refine lv_bipush (v := 8) hx hb d_M_bitAt_5 (by decide) ?_
  refine lv_idiv hx hb d_M_bitAt_7 (by decide) ?_
  obtain ⟨hin, hf⟩ := z_no hf
  refine va_iald hx hb hK hP _ 0 hN_Xfed rfl hin d_M_bitAt_8 ?_
  refine lv_bipush (v := 7) hx hb d_M_bitAt_9 (by decide) ?_
  refine lv_iload_n hx hb d_M_bitAt_11 rfl (lv_at hl 1 rfl) ?_
  refine lv_bipush (v := 8) hx hb d_M_bitAt_12 (by decide) ?_
  refine lv_irem hx hb d_M_bitAt_14 (by decide) ?_
  refine lv_isub hx hb d_M_bitAt_15 ?_
  refine lv_ishr hx hb d_M_bitAt_16 ?_
  refine lv_iconst (v := 1) hx hb d_M_bitAt_17 (by decide) ?_
  refine lv_iand hx hb d_M_bitAt_18 ?_
  obtain rfl := Option.some.inj hf
  exact W.iret hx hb hr (fun t ht hW => ⟨_, rfl, rfl, ht⟩) (fun q h => by cases h) d_M_bitAt_19
