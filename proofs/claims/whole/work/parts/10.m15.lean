def f_M_put (x1 : Int32) (x2 : Int32) (x3 : Int32) (X_code : Int32) (X_side : Int32) (Xpicture_n : Nat) (Xpicture_f : Nat → Int32) : Option (Int32 × Int32 × (Nat → Int32)) := (f_M_isPlace x1 x2 X_side).bind (fun q639 => if q639 = 0 then (if (1 : Int32) ≤ 0 then (if ((X_side * x2) + x1) < 0 ∨ Xpicture_n ≤ ((X_side * x2) + x1).toNatClampNeg then none else (if ((X_side * x2) + x1) < 0 ∨ Xpicture_n ≤ ((X_side * x2) + x1).toNatClampNeg then none else (some ((Xpicture_f ((X_side * x2) + x1).toNatClampNeg), (1 : Int32), (upd Xpicture_f ((X_side * x2) + x1).toNatClampNeg x3))))) else (some ((0 : Int32), (1 : Int32), Xpicture_f))) else ((f_M_in x3.toInt64 (0 : Int64) (255 : Int64)).bind (fun q641 => if q641 = 0 then (if (2 : Int32) ≤ 0 then (if ((X_side * x2) + x1) < 0 ∨ Xpicture_n ≤ ((X_side * x2) + x1).toNatClampNeg then none else (if ((X_side * x2) + x1) < 0 ∨ Xpicture_n ≤ ((X_side * x2) + x1).toNatClampNeg then none else (some ((Xpicture_f ((X_side * x2) + x1).toNatClampNeg), (2 : Int32), (upd Xpicture_f ((X_side * x2) + x1).toNatClampNeg x3))))) else (some ((0 : Int32), (2 : Int32), Xpicture_f))) else (if (0 : Int32) ≤ 0 then (if ((X_side * x2) + x1) < 0 ∨ Xpicture_n ≤ ((X_side * x2) + x1).toNatClampNeg then none else (if ((X_side * x2) + x1) < 0 ∨ Xpicture_n ≤ ((X_side * x2) + x1).toNatClampNeg then none else (some ((Xpicture_f ((X_side * x2) + x1).toNatClampNeg), (0 : Int32), (upd Xpicture_f ((X_side * x2) + x1).toNatClampNeg x3))))) else (some ((0 : Int32), (0 : Int32), Xpicture_f))))))
set_option maxHeartbeats 4000000 in
set_option maxRecDepth 100000 in
theorem c_M_put (l : Launch) (dC : Nat → ClassId) (dI : Nat → Nat → Nat) (cI cL : ClassId) {ws0 : va_W} (sz : Nat) {aX aXpicture aXhalf aXblocks aXencoded aXfed aXpile aXnews aXolds aXhalves aXds aXrs aXbest : Nat} {X_code X_side X_many X_found X_encodedBits X_fedMany X_readAt X_why X_tried X_waiting X_decoded : Int32} {X_bestError : Int64} {Xpicture_n : Nat} {Xpicture_f : Nat → Int32} (x1 : Int32) (x2 : Int32) (x3 : Int32) (hN_X : zA ws0 21 (aX, .inr (7, [.int X_code, .int X_side, .ref aXpicture, .ref aXhalf, .int X_many, .ref aXblocks, .int X_found, .int X_encodedBits, .ref aXencoded, .int X_fedMany, .ref aXfed, .int X_readAt, .int X_why, .int X_tried, .int X_waiting, .ref aXpile, .int X_decoded, .ref aXnews, .ref aXolds, .ref aXhalves, .ref aXds, .ref aXrs, .ref aXbest, .long X_bestError]))) (hN_Xpicture : zA ws0 22 (aXpicture, .inl (cI, Xpicture_n, .inl Xpicture_f))) (r : Int32 × Int32 × (Nat → Int32)) (hf : f_M_put x1 x2 x3 X_code X_side Xpicture_n Xpicture_f = some r) : Met l y_M_put w_M_put rm_M_put (va_Pc [.ref aX, .int x1, .int x2, .int x3] (zM dC dI cI cL ws0 sz)) (va_Qi (fun (v : Int32) (ws' : va_W) => v = r.1 ∧ zA ws' 21 (aX, .inr (7, [.int r.2.1, .int X_side, .ref aXpicture, .ref aXhalf, .int X_many, .ref aXblocks, .int X_found, .int X_encodedBits, .ref aXencoded, .int X_fedMany, .ref aXfed, .int X_readAt, .int X_why, .int X_tried, .int X_waiting, .ref aXpile, .int X_decoded, .ref aXnews, .ref aXolds, .ref aXhalves, .ref aXds, .ref aXrs, .ref aXbest, .long X_bestError])) ∧ zA ws' 22 (aXpicture, .inl (cI, Xpicture_n, .inl r.2.2)) ∧ ∀ (j : Nat), j ∉ ([21, 22] : List Nat) → ws'[j]? = ws0[j]?) (zQ dC dI cI cL (va_A ws0 sz)) (va_A ws0 sz)) 0 0 (va_A ws0 sz) := by
  refine Met.ofW (cc := b_M_put) (maxL := 5) (ret := some .int) (by decide) rfl ?_
  intro p e s m args below meth c s₁ B hml hv
  obtain ⟨rfl, hsz, hP, hK, hZ, hD0⟩ := hv
  have hx := B.exec
  have hb := B.bytes
  have hr := B.returns
  have hlocks := B.notSynchronized
  have hts : ∀ w ∈ BIG, w.before ([.ref aX, .int x1, .int x2, .int x3] : List Value).toArray s = true := fun w h => atoms_spec (ws := w_M_put) B.pre w (List.mem_cons_of_mem _ h)
  have hown : s.vm.findClass "FractalMapsModel" = some m.cls := findClass_of_methodNamed B.named
  subst hsz
  have hD := hD0.self (sz := s.heap.size)
  generalize hAe : va_A ws0 s.heap.size = A at hD ⊢
  have hA : ∀ q : Nat, s.heap.size ≤ q → A q := fun q h => by rw [← hAe]; exact Or.inr h
  have hS : va_S A s.heap s.heap [] := va_S.rf
  have hw : ∀ (j : Nat), j ∉ ([21, 22] : List Nat) → ws0[j]? = ws0[j]? := fun _ _ => rfl
  have hl := lv_entry ([.ref aX, .int x1, .int x2, .int x3]) (n := 5) (Nat.le_of_ble_eq_true rfl)
  rw [lg_entry_eq]
  generalize (lg_sl ([.ref aX, .int x1, .int x2, .int x3]) ++ List.replicate (5 - (lg_sl ([.ref aX, .int x1, .int x2, .int x3])).length) Slot.unset).toArray = ls at hl ⊢
  have hl : lv_has ls 5 [(0, .ref aX), (1, .int x1), (2, .int x2), (3, .int x3)] := hl
  unfold f_M_put at hf
  refine lv_aload_n hx hb d_M_put_0 rfl (lv_at hl 0 rfl) ?_
  refine lv_aload_n hx hb d_M_put_1 rfl (lv_at hl 0 rfl) ?_
  refine lv_iload_n hx hb d_M_put_2 rfl (lv_at hl 1 rfl) ?_
  refine lv_iload_n hx hb d_M_put_3 rfl (lv_at hl 2 rfl) ?_
  obtain ⟨q639, hc, hf⟩ := z_b hf
  refine vp_callSi (z_cr (va_runV (As := [.int x1, .int x2]) (rest := [.ref aX]) ⟨hx, hb, hml, hown, hts⟩ (c_M_isPlace l dC dI cI cL x1 x2 hN_X q639 hc) (cw_M_59 hts ⟨Nat.le_of_ble_eq_true rfl, Nat.le_of_ble_eq_true rfl⟩) ⟨zbR, va_recv hK hP (ci := 7) rfl hN_X, (zpR hP hK hZ)⟩ rfl rfl hl.1 rfl (lv_room (Nat.le_of_ble_eq_true rfl)) d_M_put_4 ⟨Nat.zero_le _, Nat.zero_le _⟩)) (fun r640 hv => ?_)
  have hv := hv.symm
  subst hv
  refine lv_if_ne (tgt := 14) hx hb d_M_put_7 (by decide) (fun hc => ?_) (fun hc => ?_)
  · have hf := z_f hc hf
    refine lv_iload_n hx hb d_M_put_14 rfl (lv_at hl 3 rfl) ?_
    refine lv_i2l hx hb d_M_put_15 rfl ?_
    refine lv_lconst (v := 0) hx hb d_M_put_16 (by decide) ?_
    refine lv_ldc2 (v := 255) hx hb hown (hts _ lk_M_63) d_M_put_17 ?_
    obtain ⟨q641, hc, hf⟩ := z_b hf
    refine vp_callSi (z_cr (va_runS (As := [.long x3.toInt64, .long (0 : Int64), .long (255 : Int64)]) (rest := [.ref aX]) ⟨hx, hb, hml, hown, hts⟩ (c_M_in l x3.toInt64 (0 : Int64) (255 : Int64) q641 hc) (cw_M_55 hts ⟨Nat.le_of_ble_eq_true rfl, Nat.le_of_ble_eq_true rfl⟩) ⟨zb0, zp0⟩ rfl rfl hl.1 rfl (lv_room (Nat.le_of_ble_eq_true rfl)) d_M_put_20 ⟨Nat.zero_le _, Nat.zero_le _⟩)) (fun r642 hv => ?_)
    have hv := hv.symm
    subst hv
    refine lv_if_ne (tgt := 30) hx hb d_M_put_23 (by decide) (fun hc => ?_) (fun hc => ?_)
    · have hf := z_f hc hf
      refine lv_iconst (v := 0) hx hb d_M_put_30 (by decide) ?_
      refine pf_M_50 (v := .int (0 : Int32)) hx hb hts hown hK hP hD hS hN_X rfl rfl (Nat.le_of_ble_eq_true rfl) d_M_put_31 (fun ws H locs hP hD hS hN_X hfr => ?_)
      have hN_X : zA ws 21 (aX, .inr (7, [.int (0 : Int32), .int X_side, .ref aXpicture, .ref aXhalf, .int X_many, .ref aXblocks, .int X_found, .int X_encodedBits, .ref aXencoded, .int X_fedMany, .ref aXfed, .int X_readAt, .int X_why, .int X_tried, .int X_waiting, .ref aXpile, .int X_decoded, .ref aXnews, .ref aXolds, .ref aXhalves, .ref aXds, .ref aXrs, .ref aXbest, .long X_bestError])) := hN_X
      have hN_Xpicture := (hfr _ (by decide)).trans hN_Xpicture
      have hw := z_fr (by decide) hw hfr
      refine lv_aload_n hx hb d_M_put_34 rfl (lv_at hl 0 rfl) ?_
      refine gf_M_50 (v := .int (0 : Int32)) hx hb hts hown hK hP hN_X rfl d_M_put_35 ?_
      refine lv_if_le (tgt := 43) hx hb d_M_put_38 (by decide) (fun hc => ?_) (fun hc => ?_)
      · have hf := z_t hc hf
        refine lv_aload_n hx hb d_M_put_43 rfl (lv_at hl 0 rfl) ?_
        refine gf_M_7 (v := .ref aXpicture) hx hb hts hown hK hP hN_X rfl d_M_put_44 ?_
        refine lv_aload_n hx hb d_M_put_47 rfl (lv_at hl 0 rfl) ?_
        refine gf_M_46 (v := .int X_side) hx hb hts hown hK hP hN_X rfl d_M_put_48 ?_
        refine lv_iload_n hx hb d_M_put_51 rfl (lv_at hl 2 rfl) ?_
        refine lv_imul hx hb d_M_put_52 ?_
        refine lv_iload_n hx hb d_M_put_53 rfl (lv_at hl 1 rfl) ?_
        refine lv_iadd hx hb d_M_put_54 ?_
        obtain ⟨hin, hf⟩ := z_no hf
        refine va_iald hx hb hK hP _ 0 hN_Xpicture rfl hin d_M_put_55 ?_
        refine lv_istore (lv' := [(4, .int (Xpicture_f ((X_side * x2) + x1).toNatClampNeg)), (0, .ref aX), (1, .int x1), (2, .int x2), (3, .int x3)]) hx hb d_M_put_56 hl (by decide) rfl (fun ls hl => ?_)
        refine lv_aload_n hx hb d_M_put_58 rfl (lv_at hl 1 rfl) ?_
        refine gf_M_7 (v := .ref aXpicture) hx hb hts hown hK hP hN_X rfl d_M_put_59 ?_
        refine lv_aload_n hx hb d_M_put_62 rfl (lv_at hl 1 rfl) ?_
        refine gf_M_46 (v := .int X_side) hx hb hts hown hK hP hN_X rfl d_M_put_63 ?_
        refine lv_iload_n hx hb d_M_put_66 rfl (lv_at hl 3 rfl) ?_
        refine lv_imul hx hb d_M_put_67 ?_
        refine lv_iload_n hx hb d_M_put_68 rfl (lv_at hl 2 rfl) ?_
        refine lv_iadd hx hb d_M_put_69 ?_
        refine lv_iload_n hx hb d_M_put_70 rfl (lv_at hl 4 rfl) ?_
        obtain ⟨hin, hf⟩ := z_no hf
        refine z_iast hx hb hK hP hD hS hN_Xpicture rfl hin d_M_put_71 (fun ws H locs hP hD hS hN_Xpicture hfr => ?_)
        have hN_Xpicture : zA ws 22 (aXpicture, .inl (cI, Xpicture_n, .inl (upd Xpicture_f ((X_side * x2) + x1).toNatClampNeg x3))) := hN_Xpicture
        have hN_X := (hfr _ (by decide)).trans hN_X
        have hw := z_fr (by decide) hw hfr
        refine lv_iload hx hb d_M_put_72 (lv_at hl 0 rfl) ?_
        obtain rfl := Option.some.inj hf
        exact W.iret hx hb hr (fun t ht hW => ⟨⟨_, ws, rfl, ⟨rfl, hN_X, hN_Xpicture, hw⟩, by rw [ht]; exact hP, va_K.moved hW.alike hK, hD⟩, hS.F ht⟩) hS.2.2 d_M_put_74
      · have hf := z_f hc hf
        refine lv_iconst (v := 0) hx hb d_M_put_41 (by decide) ?_
        obtain rfl := Option.some.inj hf
        exact W.iret hx hb hr (fun t ht hW => ⟨⟨_, ws, rfl, ⟨rfl, hN_X, hN_Xpicture, hw⟩, by rw [ht]; exact hP, va_K.moved hW.alike hK, hD⟩, hS.F ht⟩) hS.2.2 d_M_put_42
    · have hf := z_t hc hf
      refine lv_iconst (v := 2) hx hb d_M_put_26 (by decide) ?_
      refine lv_goto (tgt := 31) hx hb d_M_put_27 (by decide) ?_
      refine pf_M_50 (v := .int (2 : Int32)) hx hb hts hown hK hP hD hS hN_X rfl rfl (Nat.le_of_ble_eq_true rfl) d_M_put_31 (fun ws H locs hP hD hS hN_X hfr => ?_)
      have hN_X : zA ws 21 (aX, .inr (7, [.int (2 : Int32), .int X_side, .ref aXpicture, .ref aXhalf, .int X_many, .ref aXblocks, .int X_found, .int X_encodedBits, .ref aXencoded, .int X_fedMany, .ref aXfed, .int X_readAt, .int X_why, .int X_tried, .int X_waiting, .ref aXpile, .int X_decoded, .ref aXnews, .ref aXolds, .ref aXhalves, .ref aXds, .ref aXrs, .ref aXbest, .long X_bestError])) := hN_X
      have hN_Xpicture := (hfr _ (by decide)).trans hN_Xpicture
      have hw := z_fr (by decide) hw hfr
      refine lv_aload_n hx hb d_M_put_34 rfl (lv_at hl 0 rfl) ?_
      refine gf_M_50 (v := .int (2 : Int32)) hx hb hts hown hK hP hN_X rfl d_M_put_35 ?_
      refine lv_if_le (tgt := 43) hx hb d_M_put_38 (by decide) (fun hc => ?_) (fun hc => ?_)
      · have hf := z_t hc hf
        refine lv_aload_n hx hb d_M_put_43 rfl (lv_at hl 0 rfl) ?_
        refine gf_M_7 (v := .ref aXpicture) hx hb hts hown hK hP hN_X rfl d_M_put_44 ?_
        refine lv_aload_n hx hb d_M_put_47 rfl (lv_at hl 0 rfl) ?_
        refine gf_M_46 (v := .int X_side) hx hb hts hown hK hP hN_X rfl d_M_put_48 ?_
        refine lv_iload_n hx hb d_M_put_51 rfl (lv_at hl 2 rfl) ?_
        refine lv_imul hx hb d_M_put_52 ?_
        refine lv_iload_n hx hb d_M_put_53 rfl (lv_at hl 1 rfl) ?_
        refine lv_iadd hx hb d_M_put_54 ?_
        obtain ⟨hin, hf⟩ := z_no hf
        refine va_iald hx hb hK hP _ 0 hN_Xpicture rfl hin d_M_put_55 ?_
        refine lv_istore (lv' := [(4, .int (Xpicture_f ((X_side * x2) + x1).toNatClampNeg)), (0, .ref aX), (1, .int x1), (2, .int x2), (3, .int x3)]) hx hb d_M_put_56 hl (by decide) rfl (fun ls hl => ?_)
        refine lv_aload_n hx hb d_M_put_58 rfl (lv_at hl 1 rfl) ?_
        refine gf_M_7 (v := .ref aXpicture) hx hb hts hown hK hP hN_X rfl d_M_put_59 ?_
        refine lv_aload_n hx hb d_M_put_62 rfl (lv_at hl 1 rfl) ?_
        refine gf_M_46 (v := .int X_side) hx hb hts hown hK hP hN_X rfl d_M_put_63 ?_
        refine lv_iload_n hx hb d_M_put_66 rfl (lv_at hl 3 rfl) ?_
        refine lv_imul hx hb d_M_put_67 ?_
        refine lv_iload_n hx hb d_M_put_68 rfl (lv_at hl 2 rfl) ?_
        refine lv_iadd hx hb d_M_put_69 ?_
        refine lv_iload_n hx hb d_M_put_70 rfl (lv_at hl 4 rfl) ?_
        obtain ⟨hin, hf⟩ := z_no hf
        refine z_iast hx hb hK hP hD hS hN_Xpicture rfl hin d_M_put_71 (fun ws H locs hP hD hS hN_Xpicture hfr => ?_)
        have hN_Xpicture : zA ws 22 (aXpicture, .inl (cI, Xpicture_n, .inl (upd Xpicture_f ((X_side * x2) + x1).toNatClampNeg x3))) := hN_Xpicture
        have hN_X := (hfr _ (by decide)).trans hN_X
        have hw := z_fr (by decide) hw hfr
        refine lv_iload hx hb d_M_put_72 (lv_at hl 0 rfl) ?_
        obtain rfl := Option.some.inj hf
        exact W.iret hx hb hr (fun t ht hW => ⟨⟨_, ws, rfl, ⟨rfl, hN_X, hN_Xpicture, hw⟩, by rw [ht]; exact hP, va_K.moved hW.alike hK, hD⟩, hS.F ht⟩) hS.2.2 d_M_put_74
      · have hf := z_f hc hf
        refine lv_iconst (v := 0) hx hb d_M_put_41 (by decide) ?_
        obtain rfl := Option.some.inj hf
        exact W.iret hx hb hr (fun t ht hW => ⟨⟨_, ws, rfl, ⟨rfl, hN_X, hN_Xpicture, hw⟩, by rw [ht]; exact hP, va_K.moved hW.alike hK, hD⟩, hS.F ht⟩) hS.2.2 d_M_put_42
  · have hf := z_t hc hf
    refine lv_iconst (v := 1) hx hb d_M_put_10 (by decide) ?_
    refine lv_goto (tgt := 31) hx hb d_M_put_11 (by decide) ?_
    refine pf_M_50 (v := .int (1 : Int32)) hx hb hts hown hK hP hD hS hN_X rfl rfl (Nat.le_of_ble_eq_true rfl) d_M_put_31 (fun ws H locs hP hD hS hN_X hfr => ?_)
    have hN_X : zA ws 21 (aX, .inr (7, [.int (1 : Int32), .int X_side, .ref aXpicture, .ref aXhalf, .int X_many, .ref aXblocks, .int X_found, .int X_encodedBits, .ref aXencoded, .int X_fedMany, .ref aXfed, .int X_readAt, .int X_why, .int X_tried, .int X_waiting, .ref aXpile, .int X_decoded, .ref aXnews, .ref aXolds, .ref aXhalves, .ref aXds, .ref aXrs, .ref aXbest, .long X_bestError])) := hN_X
    have hN_Xpicture := (hfr _ (by decide)).trans hN_Xpicture
    have hw := z_fr (by decide) hw hfr
    refine lv_aload_n hx hb d_M_put_34 rfl (lv_at hl 0 rfl) ?_
    refine gf_M_50 (v := .int (1 : Int32)) hx hb hts hown hK hP hN_X rfl d_M_put_35 ?_
    refine lv_if_le (tgt := 43) hx hb d_M_put_38 (by decide) (fun hc => ?_) (fun hc => ?_)
    · have hf := z_t hc hf
      refine lv_aload_n hx hb d_M_put_43 rfl (lv_at hl 0 rfl) ?_
      refine gf_M_7 (v := .ref aXpicture) hx hb hts hown hK hP hN_X rfl d_M_put_44 ?_
      refine lv_aload_n hx hb d_M_put_47 rfl (lv_at hl 0 rfl) ?_
      refine gf_M_46 (v := .int X_side) hx hb hts hown hK hP hN_X rfl d_M_put_48 ?_
      refine lv_iload_n hx hb d_M_put_51 rfl (lv_at hl 2 rfl) ?_
      refine lv_imul hx hb d_M_put_52 ?_
      refine lv_iload_n hx hb d_M_put_53 rfl (lv_at hl 1 rfl) ?_
      refine lv_iadd hx hb d_M_put_54 ?_
      obtain ⟨hin, hf⟩ := z_no hf
      refine va_iald hx hb hK hP _ 0 hN_Xpicture rfl hin d_M_put_55 ?_
      refine lv_istore (lv' := [(4, .int (Xpicture_f ((X_side * x2) + x1).toNatClampNeg)), (0, .ref aX), (1, .int x1), (2, .int x2), (3, .int x3)]) hx hb d_M_put_56 hl (by decide) rfl (fun ls hl => ?_)
      refine lv_aload_n hx hb d_M_put_58 rfl (lv_at hl 1 rfl) ?_
      refine gf_M_7 (v := .ref aXpicture) hx hb hts hown hK hP hN_X rfl d_M_put_59 ?_
      refine lv_aload_n hx hb d_M_put_62 rfl (lv_at hl 1 rfl) ?_
      refine gf_M_46 (v := .int X_side) hx hb hts hown hK hP hN_X rfl d_M_put_63 ?_
      refine lv_iload_n hx hb d_M_put_66 rfl (lv_at hl 3 rfl) ?_
      refine lv_imul hx hb d_M_put_67 ?_
      refine lv_iload_n hx hb d_M_put_68 rfl (lv_at hl 2 rfl) ?_
      refine lv_iadd hx hb d_M_put_69 ?_
      refine lv_iload_n hx hb d_M_put_70 rfl (lv_at hl 4 rfl) ?_
      obtain ⟨hin, hf⟩ := z_no hf
      refine z_iast hx hb hK hP hD hS hN_Xpicture rfl hin d_M_put_71 (fun ws H locs hP hD hS hN_Xpicture hfr => ?_)
      have hN_Xpicture : zA ws 22 (aXpicture, .inl (cI, Xpicture_n, .inl (upd Xpicture_f ((X_side * x2) + x1).toNatClampNeg x3))) := hN_Xpicture
      have hN_X := (hfr _ (by decide)).trans hN_X
      have hw := z_fr (by decide) hw hfr
      refine lv_iload hx hb d_M_put_72 (lv_at hl 0 rfl) ?_
      obtain rfl := Option.some.inj hf
      exact W.iret hx hb hr (fun t ht hW => ⟨⟨_, ws, rfl, ⟨rfl, hN_X, hN_Xpicture, hw⟩, by rw [ht]; exact hP, va_K.moved hW.alike hK, hD⟩, hS.F ht⟩) hS.2.2 d_M_put_74
    · have hf := z_f hc hf
      refine lv_iconst (v := 0) hx hb d_M_put_41 (by decide) ?_
      obtain rfl := Option.some.inj hf
      exact W.iret hx hb hr (fun t ht hW => ⟨⟨_, ws, rfl, ⟨rfl, hN_X, hN_Xpicture, hw⟩, by rw [ht]; exact hP, va_K.moved hW.alike hK, hD⟩, hS.F ht⟩) hS.2.2 d_M_put_42
def f_M_brought (x1 : Int64) (x2 : Int32) (x3 : Int32) : Option (Int32) := if 0 ≤ (lg_cmp x1 x2.toInt64) then (if (lg_cmp x1 x3.toInt64) ≤ 0 then (some x1.toInt32) else (some x3)) else (some x2)
set_option maxHeartbeats 4000000 in
set_option maxRecDepth 100000 in
theorem c_M_brought (l : Launch) (x1 : Int64) (x2 : Int32) (x3 : Int32) (r : Int32) (hf : f_M_brought x1 x2 x3 = some r) : Met l y_M_brought w_M_brought rm_M_brought (va_Pc [.long x1, .int x2, .int x3] (fun _ => True)) (vp_Si (fun v => v = r)) 0 0 (fun _ => False) := by
  refine Met.ofW (cc := b_M_brought) (maxL := 4) (ret := some .int) (by decide) rfl ?_
  intro p e s m args below meth c s₁ B hml hv
  obtain ⟨rfl, -⟩ := hv
  have hx := B.exec
  have hb := B.bytes
  have hr := B.returns
  have hlocks := B.notSynchronized
  have hts : ∀ w ∈ BIG, w.before ([.long x1, .int x2, .int x3] : List Value).toArray s = true := fun w h => atoms_spec (ws := w_M_brought) B.pre w (List.mem_cons_of_mem _ h)
  have hown : s.vm.findClass "FractalMapsModel" = some m.cls := findClass_of_methodNamed B.named
  have hl := lv_entry ([.long x1, .int x2, .int x3]) (n := 4) (Nat.le_of_ble_eq_true rfl)
  rw [lg_entry_eq]
  generalize (lg_sl ([.long x1, .int x2, .int x3]) ++ List.replicate (4 - (lg_sl ([.long x1, .int x2, .int x3])).length) Slot.unset).toArray = ls at hl ⊢
  have hl : lv_has ls 4 [(0, .long x1), (2, .int x2), (3, .int x3)] := hl
  unfold f_M_brought at hf
  refine lv_lload_n hx hb d_M_brought_0 rfl (lv_at hl 0 rfl) ?_
  refine lv_iload_n hx hb d_M_brought_1 rfl (lv_at hl 1 rfl) ?_
  refine lv_i2l hx hb d_M_brought_2 rfl ?_
  refine W.lcmp hx hb d_M_brought_3 ?_
  refine lv_if_ge (tgt := 11) hx hb d_M_brought_4 (by decide) (fun hc => ?_) (fun hc => ?_)
  · have hf := z_t hc hf
    refine lv_lload_n hx hb d_M_brought_11 rfl (lv_at hl 0 rfl) ?_
    refine lv_iload_n hx hb d_M_brought_12 rfl (lv_at hl 2 rfl) ?_
    refine lv_i2l hx hb d_M_brought_13 rfl ?_
    refine W.lcmp hx hb d_M_brought_14 ?_
    refine lv_if_le (tgt := 22) hx hb d_M_brought_15 (by decide) (fun hc => ?_) (fun hc => ?_)
    · have hf := z_t hc hf
      refine lv_lload_n hx hb d_M_brought_22 rfl (lv_at hl 0 rfl) ?_
      refine lv_l2i hx hb d_M_brought_23 rfl ?_
      obtain rfl := Option.some.inj hf
      exact W.iret hx hb hr (fun t ht hW => ⟨_, rfl, rfl, ht⟩) (fun q h => by cases h) d_M_brought_24
    · have hf := z_f hc hf
      refine lv_iload_n hx hb d_M_brought_18 rfl (lv_at hl 2 rfl) ?_
      refine lv_goto (tgt := 24) hx hb d_M_brought_19 (by decide) ?_
      obtain rfl := Option.some.inj hf
      exact W.iret hx hb hr (fun t ht hW => ⟨_, rfl, rfl, ht⟩) (fun q h => by cases h) d_M_brought_24
  · have hf := z_f hc hf
    refine lv_iload_n hx hb d_M_brought_7 rfl (lv_at hl 1 rfl) ?_
    refine lv_goto (tgt := 24) hx hb d_M_brought_8 (by decide) ?_
    obtain rfl := Option.some.inj hf
    exact W.iret hx hb hr (fun t ht hW => ⟨_, rfl, rfl, ht⟩) (fun q h => by cases h) d_M_brought_24
def f_M_paint_11 (p1 : Int32) (p2 : Int32) (p3 : Int32) (X_side : Int32) (Xpicture_n : Nat) : Nat → Int32 → Int32 → (Nat → Int32) → Option (Int32 × Int32 × (Nat → Int32))
  | 0, _, _, _ => none
  | n + 1, v4, v5, Xpicture_f => if (X_side * X_side) ≤ v5 then (some (v4, v5, Xpicture_f)) else (if X_side = 0 then none else (if X_side = 0 then none else ((f_M_brought (((p2.toInt64 * (v5 - v5 / X_side * X_side).toInt64) + (p3.toInt64 * (v5 / X_side).toInt64)) + p1.toInt64) (0 : Int32) (255 : Int32)).bind (fun q643 => if v5 < 0 ∨ Xpicture_n ≤ v5.toNatClampNeg then none else (if q643 = (Xpicture_f v5.toNatClampNeg) then (if v5 < 0 ∨ Xpicture_n ≤ v5.toNatClampNeg then none else (f_M_paint_11 p1 p2 p3 X_side Xpicture_n n (v4 + (0 : Int32)) (v5 + 1) (upd Xpicture_f v5.toNatClampNeg q643))) else (if v5 < 0 ∨ Xpicture_n ≤ v5.toNatClampNeg then none else (f_M_paint_11 p1 p2 p3 X_side Xpicture_n n (v4 + (1 : Int32)) (v5 + 1) (upd Xpicture_f v5.toNatClampNeg q643))))))))
def f_M_paint (x1 : Int32) (x2 : Int32) (x3 : Int32) (X_side : Int32) (Xpicture_n : Nat) (Xpicture_f : Nat → Int32) : Option (Int32 × Int32 × (Nat → Int32)) := (f_M_paint_11 x1 x2 x3 X_side Xpicture_n FU (0 : Int32) (0 : Int32) Xpicture_f).bind (fun q645 => some (q645.1, (0 : Int32), q645.2.2))
set_option maxHeartbeats 4000000 in
set_option maxRecDepth 100000 in
theorem c_M_paint (l : Launch) (dC : Nat → ClassId) (dI : Nat → Nat → Nat) (cI cL : ClassId) {ws0 : va_W} (sz : Nat) {aX aXpicture aXhalf aXblocks aXencoded aXfed aXpile aXnews aXolds aXhalves aXds aXrs aXbest : Nat} {X_code X_side X_many X_found X_encodedBits X_fedMany X_readAt X_why X_tried X_waiting X_decoded : Int32} {X_bestError : Int64} {Xpicture_n : Nat} {Xpicture_f : Nat → Int32} (x1 : Int32) (x2 : Int32) (x3 : Int32) (hN_X : zA ws0 21 (aX, .inr (7, [.int X_code, .int X_side, .ref aXpicture, .ref aXhalf, .int X_many, .ref aXblocks, .int X_found, .int X_encodedBits, .ref aXencoded, .int X_fedMany, .ref aXfed, .int X_readAt, .int X_why, .int X_tried, .int X_waiting, .ref aXpile, .int X_decoded, .ref aXnews, .ref aXolds, .ref aXhalves, .ref aXds, .ref aXrs, .ref aXbest, .long X_bestError]))) (hN_Xpicture : zA ws0 22 (aXpicture, .inl (cI, Xpicture_n, .inl Xpicture_f))) (r : Int32 × Int32 × (Nat → Int32)) (hf : f_M_paint x1 x2 x3 X_side Xpicture_n Xpicture_f = some r) : Met l y_M_paint w_M_paint rm_M_paint (va_Pc [.ref aX, .int x1, .int x2, .int x3] (zM dC dI cI cL ws0 sz)) (va_Qi (fun (v : Int32) (ws' : va_W) => v = r.1 ∧ zA ws' 21 (aX, .inr (7, [.int r.2.1, .int X_side, .ref aXpicture, .ref aXhalf, .int X_many, .ref aXblocks, .int X_found, .int X_encodedBits, .ref aXencoded, .int X_fedMany, .ref aXfed, .int X_readAt, .int X_why, .int X_tried, .int X_waiting, .ref aXpile, .int X_decoded, .ref aXnews, .ref aXolds, .ref aXhalves, .ref aXds, .ref aXrs, .ref aXbest, .long X_bestError])) ∧ zA ws' 22 (aXpicture, .inl (cI, Xpicture_n, .inl r.2.2)) ∧ ∀ (j : Nat), j ∉ ([21, 22] : List Nat) → ws'[j]? = ws0[j]?) (zQ dC dI cI cL (va_A ws0 sz)) (va_A ws0 sz)) 0 0 (va_A ws0 sz) := by
  refine Met.ofW (cc := b_M_paint) (maxL := 9) (ret := some .int) (by decide) rfl ?_
  intro p e s m args below meth c s₁ B hml hv
  obtain ⟨rfl, hsz, hP, hK, hZ, hD0⟩ := hv
  have hx := B.exec
  have hb := B.bytes
  have hr := B.returns
  have hlocks := B.notSynchronized
  have hts : ∀ w ∈ BIG, w.before ([.ref aX, .int x1, .int x2, .int x3] : List Value).toArray s = true := fun w h => atoms_spec (ws := w_M_paint) B.pre w (List.mem_cons_of_mem _ h)
  have hown : s.vm.findClass "FractalMapsModel" = some m.cls := findClass_of_methodNamed B.named
  subst hsz
  have hD := hD0.self (sz := s.heap.size)
  generalize hAe : va_A ws0 s.heap.size = A at hD ⊢
  have hA : ∀ q : Nat, s.heap.size ≤ q → A q := fun q h => by rw [← hAe]; exact Or.inr h
  have hS : va_S A s.heap s.heap [] := va_S.rf
  have hw : ∀ (j : Nat), j ∉ ([21, 22] : List Nat) → ws0[j]? = ws0[j]? := fun _ _ => rfl
  have hl := lv_entry ([.ref aX, .int x1, .int x2, .int x3]) (n := 9) (Nat.le_of_ble_eq_true rfl)
  rw [lg_entry_eq]
  generalize (lg_sl ([.ref aX, .int x1, .int x2, .int x3]) ++ List.replicate (9 - (lg_sl ([.ref aX, .int x1, .int x2, .int x3])).length) Slot.unset).toArray = ls at hl ⊢
  have hl : lv_has ls 9 [(0, .ref aX), (1, .int x1), (2, .int x2), (3, .int x3)] := hl
  unfold f_M_paint at hf
  refine lv_aload_n hx hb d_M_paint_0 rfl (lv_at hl 0 rfl) ?_
  refine lv_iconst (v := 0) hx hb d_M_paint_1 (by decide) ?_
  refine pf_M_50 (v := .int (0 : Int32)) hx hb hts hown hK hP hD hS hN_X rfl rfl (Nat.le_of_ble_eq_true rfl) d_M_paint_2 (fun ws H locs hP hD hS hN_X hfr => ?_)
  have hN_X : zA ws 21 (aX, .inr (7, [.int (0 : Int32), .int X_side, .ref aXpicture, .ref aXhalf, .int X_many, .ref aXblocks, .int X_found, .int X_encodedBits, .ref aXencoded, .int X_fedMany, .ref aXfed, .int X_readAt, .int X_why, .int X_tried, .int X_waiting, .ref aXpile, .int X_decoded, .ref aXnews, .ref aXolds, .ref aXhalves, .ref aXds, .ref aXrs, .ref aXbest, .long X_bestError])) := hN_X
  have hN_Xpicture := (hfr _ (by decide)).trans hN_Xpicture
  have hw := z_fr (by decide) hw hfr
  refine lv_iconst (v := 0) hx hb d_M_paint_5 (by decide) ?_
  refine lv_istore (lv' := [(4, .int (0 : Int32)), (0, .ref aX), (1, .int x1), (2, .int x2), (3, .int x3)]) hx hb d_M_paint_6 hl (by decide) rfl (fun ls hl => ?_)
  refine lv_iconst (v := 0) hx hb d_M_paint_8 (by decide) ?_
  refine lv_istore (lv' := [(5, .int (0 : Int32)), (4, .int (0 : Int32)), (0, .ref aX), (1, .int x1), (2, .int x2), (3, .int x3)]) hx hb d_M_paint_9 hl (by decide) rfl (fun ls hl => ?_)
  have lp649 : ∀ (Qx : State → Prop) (n : Nat) (v4_646 : Int32) (v5_647 : Int32) (Xpicture_f_648 : Nat → Int32) (ws : va_W) (H : Heap) (locs : List Loc) (ls : Array Slot) (q : Int32 × Int32 × (Nat → Int32)) (hf : f_M_paint_11 x1 x2 x3 X_side Xpicture_n n v4_646 v5_647 Xpicture_f_648 = some q) (hl : lv_has ls 9 [(0, .ref aX), (1, .int x1), (2, .int x2), (3, .int x3), (4, .int v4_646), (5, .int v5_647)]) (hP : va_P (dC, dI) classes ws H) (hD : va_D A ws) (hS : va_S A s.heap H locs) (hN_X : zA ws 21 (aX, .inr (7, [.int (0 : Int32), .int X_side, .ref aXpicture, .ref aXhalf, .int X_many, .ref aXblocks, .int X_found, .int X_encodedBits, .ref aXencoded, .int X_fedMany, .ref aXfed, .int X_readAt, .int X_why, .int X_tried, .int X_waiting, .ref aXpile, .int X_decoded, .ref aXnews, .ref aXolds, .ref aXhalves, .ref aXds, .ref aXrs, .ref aXbest, .long X_bestError]))) (hN_Xpicture : zA ws 22 (aXpicture, .inl (cI, Xpicture_n, .inl Xpicture_f_648))) (hw : ∀ (j : Nat), j ∉ ([21, 22] : List Nat) → ws[j]? = ws0[j]?) (kt0 : ∀ (ws : va_W) (H : Heap) (locs : List Loc) (ls : Array Slot), lv_has ls 9 [(0, .ref aX), (1, .int x1), (2, .int x2), (3, .int x3), (4, .int q.1), (5, .int q.2.1)] → (va_P (dC, dI) classes ws H) → (va_D A ws) → (va_S A s.heap H locs) → (zA ws 21 (aX, .inr (7, [.int (0 : Int32), .int X_side, .ref aXpicture, .ref aXhalf, .int X_many, .ref aXblocks, .int X_found, .int X_encodedBits, .ref aXencoded, .int X_fedMany, .ref aXfed, .int X_readAt, .int X_why, .int X_tried, .int X_waiting, .ref aXpile, .int X_decoded, .ref aXnews, .ref aXolds, .ref aXhalves, .ref aXds, .ref aXrs, .ref aXbest, .long X_bestError]))) → (zA ws 22 (aXpicture, .inl (cI, Xpicture_n, .inl q.2.2))) → (∀ (j : Nat), j ∉ ([21, 22] : List Nat) → ws[j]? = ws0[j]?) → W p l e (headSpec w_M_paint rm_M_paint).room s m ([.ref aX, .int x1, .int x2, .int x3] : List Value).toArray below meth c H locs 0 0 Qx (F0 m 101 ls [])), W p l e (headSpec w_M_paint rm_M_paint).room s m ([.ref aX, .int x1, .int x2, .int x3] : List Value).toArray below meth c H locs 0 0 Qx (F0 m 11 ls []) := by
    intro Qx n
    induction n with
    | zero => intro v4_646 v5_647 Xpicture_f_648 ws H locs ls q hf; cases hf
    | succ n ih =>
      intro v4_646 v5_647 Xpicture_f_648 ws H locs ls q hf hl hP hD hS hN_X hN_Xpicture hw kt0
      rw [f_M_paint_11] at hf
      refine lv_iload hx hb d_M_paint_11 (lv_at hl 5 rfl) ?_
      refine lv_aload_n hx hb d_M_paint_13 rfl (lv_at hl 0 rfl) ?_
      refine gf_M_46 (v := .int X_side) hx hb hts hown hK hP hN_X rfl d_M_paint_14 ?_
      refine lv_aload_n hx hb d_M_paint_17 rfl (lv_at hl 0 rfl) ?_
      refine gf_M_46 (v := .int X_side) hx hb hts hown hK hP hN_X rfl d_M_paint_18 ?_
      refine lv_imul hx hb d_M_paint_21 ?_
      refine lv_icmp_ge (tgt := 101) hx hb d_M_paint_22 (by decide) (fun hc => ?_) (fun hc => ?_)
      · have hf := z_t hc hf
        obtain rfl := Option.some.inj hf
        exact kt0 _ _ _ ls (lv_sub hl [0, 1, 2, 3, 4, 5] rfl) hP hD hS hN_X hN_Xpicture hw
      · have hf := z_f hc hf
        refine lv_iload_n hx hb d_M_paint_25 rfl (lv_at hl 2 rfl) ?_
        refine lv_i2l hx hb d_M_paint_26 rfl ?_
        refine lv_iload hx hb d_M_paint_27 (lv_at hl 5 rfl) ?_
        refine lv_aload_n hx hb d_M_paint_29 rfl (lv_at hl 0 rfl) ?_
        refine gf_M_46 (v := .int X_side) hx hb hts hown hK hP hN_X rfl d_M_paint_30 ?_
        obtain ⟨hne, hf⟩ := z_no hf
        refine lv_irem hx hb d_M_paint_33 hne ?_
        refine lv_i2l hx hb d_M_paint_34 rfl ?_
        refine lv_lmul hx hb d_M_paint_35 ?_
        refine lv_iload_n hx hb d_M_paint_36 rfl (lv_at hl 3 rfl) ?_
        refine lv_i2l hx hb d_M_paint_37 rfl ?_
        refine lv_iload hx hb d_M_paint_38 (lv_at hl 5 rfl) ?_
        refine lv_aload_n hx hb d_M_paint_40 rfl (lv_at hl 0 rfl) ?_
        refine gf_M_46 (v := .int X_side) hx hb hts hown hK hP hN_X rfl d_M_paint_41 ?_
        obtain ⟨hne, hf⟩ := z_no hf
        refine lv_idiv hx hb d_M_paint_44 hne ?_
        refine lv_i2l hx hb d_M_paint_45 rfl ?_
        refine lv_lmul hx hb d_M_paint_46 ?_
        refine lv_ladd hx hb d_M_paint_47 ?_
        refine lv_iload_n hx hb d_M_paint_48 rfl (lv_at hl 1 rfl) ?_
        refine lv_i2l hx hb d_M_paint_49 rfl ?_
        refine lv_ladd hx hb d_M_paint_50 ?_
        refine lv_lstore (lv' := [(6, .long (((x2.toInt64 * (v5_647 - v5_647 / X_side * X_side).toInt64) + (x3.toInt64 * (v5_647 / X_side).toInt64)) + x1.toInt64)), (0, .ref aX), (1, .int x1), (2, .int x2), (3, .int x3), (4, .int v4_646), (5, .int v5_647)]) hx hb d_M_paint_51 hl (by decide) rfl (fun ls hl => ?_)
        refine lv_lload hx hb d_M_paint_53 (lv_at hl 0 rfl) ?_
        refine lv_iconst (v := 0) hx hb d_M_paint_55 (by decide) ?_
        refine lv_sipush (v := 255) hx hb d_M_paint_56 (by decide) ?_
        obtain ⟨q650, hc, hf⟩ := z_b hf
        refine vp_callSi (z_cr (va_runS (As := [.long (((x2.toInt64 * (v5_647 - v5_647 / X_side * X_side).toInt64) + (x3.toInt64 * (v5_647 / X_side).toInt64)) + x1.toInt64), .int (0 : Int32), .int (255 : Int32)]) (rest := []) ⟨hx, hb, hml, hown, hts⟩ (c_M_brought l (((x2.toInt64 * (v5_647 - v5_647 / X_side * X_side).toInt64) + (x3.toInt64 * (v5_647 / X_side).toInt64)) + x1.toInt64) (0 : Int32) (255 : Int32) q650 hc) (cw_M_65 hts ⟨Nat.le_of_ble_eq_true rfl, Nat.le_of_ble_eq_true rfl⟩) ⟨zb0, zp0⟩ rfl rfl hl.1 rfl (lv_room (Nat.le_of_ble_eq_true rfl)) d_M_paint_59 ⟨Nat.zero_le _, Nat.zero_le _⟩)) (fun r651 hv => ?_)
        have hv := hv.symm
        subst hv
        refine lv_istore (lv' := [(8, .int q650), (6, .long (((x2.toInt64 * (v5_647 - v5_647 / X_side * X_side).toInt64) + (x3.toInt64 * (v5_647 / X_side).toInt64)) + x1.toInt64)), (0, .ref aX), (1, .int x1), (2, .int x2), (3, .int x3), (4, .int v4_646), (5, .int v5_647)]) hx hb d_M_paint_62 hl (by decide) rfl (fun ls hl => ?_)
        refine lv_iload hx hb d_M_paint_64 (lv_at hl 6 rfl) ?_
        refine lv_iload hx hb d_M_paint_66 (lv_at hl 0 rfl) ?_
        refine lv_aload_n hx hb d_M_paint_68 rfl (lv_at hl 2 rfl) ?_
        refine gf_M_7 (v := .ref aXpicture) hx hb hts hown hK hP hN_X rfl d_M_paint_69 ?_
        refine lv_iload hx hb d_M_paint_72 (lv_at hl 7 rfl) ?_
        obtain ⟨hin, hf⟩ := z_no hf
        refine va_iald hx hb hK hP _ 0 hN_Xpicture rfl hin d_M_paint_74 ?_
        refine lv_icmp_ne (tgt := 82) hx hb d_M_paint_75 (by decide) (fun hc => ?_) (fun hc => ?_)
        · have hf := z_f hc hf
          refine lv_iconst (v := 1) hx hb d_M_paint_82 (by decide) ?_
          refine lv_iadd hx hb d_M_paint_83 ?_
          refine lv_istore (lv' := [(4, .int (v4_646 + (1 : Int32))), (8, .int q650), (6, .long (((x2.toInt64 * (v5_647 - v5_647 / X_side * X_side).toInt64) + (x3.toInt64 * (v5_647 / X_side).toInt64)) + x1.toInt64)), (0, .ref aX), (1, .int x1), (2, .int x2), (3, .int x3), (5, .int v5_647)]) hx hb d_M_paint_84 hl (by decide) rfl (fun ls hl => ?_)
          refine lv_aload_n hx hb d_M_paint_86 rfl (lv_at hl 3 rfl) ?_
          refine gf_M_7 (v := .ref aXpicture) hx hb hts hown hK hP hN_X rfl d_M_paint_87 ?_
          refine lv_iload hx hb d_M_paint_90 (lv_at hl 7 rfl) ?_
          refine lv_iload hx hb d_M_paint_92 (lv_at hl 1 rfl) ?_
          obtain ⟨hin, hf⟩ := z_no hf
          refine z_iast hx hb hK hP hD hS hN_Xpicture rfl hin d_M_paint_94 (fun ws H locs hP hD hS hN_Xpicture hfr => ?_)
          have hN_Xpicture : zA ws 22 (aXpicture, .inl (cI, Xpicture_n, .inl (upd Xpicture_f_648 v5_647.toNatClampNeg q650))) := hN_Xpicture
          have hN_X := (hfr _ (by decide)).trans hN_X
          have hw := z_fr (by decide) hw hfr
          refine lv_iinc (v := (v5_647 + 1)) (lv' := [(5, .int (v5_647 + 1)), (4, .int (v4_646 + (1 : Int32))), (8, .int q650), (6, .long (((x2.toInt64 * (v5_647 - v5_647 / X_side * X_side).toInt64) + (x3.toInt64 * (v5_647 / X_side).toInt64)) + x1.toInt64)), (0, .ref aX), (1, .int x1), (2, .int x2), (3, .int x3)]) hx hb d_M_paint_95 hl (k := 7) rfl rfl (by decide) rfl (fun ls hl => ?_)
          refine lv_goto (tgt := 11) hx hb d_M_paint_98 (by decide) ?_
          exact ih (v4_646 + (1 : Int32)) (v5_647 + 1) (upd Xpicture_f_648 v5_647.toNatClampNeg q650) _ _ _ ls _ hf (lv_sub hl [4, 5, 6, 7, 1, 0] rfl) hP hD hS hN_X hN_Xpicture hw kt0
        · have hf := z_t hc hf
          refine lv_iconst (v := 0) hx hb d_M_paint_78 (by decide) ?_
          refine lv_goto (tgt := 83) hx hb d_M_paint_79 (by decide) ?_
          refine lv_iadd hx hb d_M_paint_83 ?_
          refine lv_istore (lv' := [(4, .int (v4_646 + (0 : Int32))), (8, .int q650), (6, .long (((x2.toInt64 * (v5_647 - v5_647 / X_side * X_side).toInt64) + (x3.toInt64 * (v5_647 / X_side).toInt64)) + x1.toInt64)), (0, .ref aX), (1, .int x1), (2, .int x2), (3, .int x3), (5, .int v5_647)]) hx hb d_M_paint_84 hl (by decide) rfl (fun ls hl => ?_)
          refine lv_aload_n hx hb d_M_paint_86 rfl (lv_at hl 3 rfl) ?_
          refine gf_M_7 (v := .ref aXpicture) hx hb hts hown hK hP hN_X rfl d_M_paint_87 ?_
          refine lv_iload hx hb d_M_paint_90 (lv_at hl 7 rfl) ?_
          refine lv_iload hx hb d_M_paint_92 (lv_at hl 1 rfl) ?_
          obtain ⟨hin, hf⟩ := z_no hf
          refine z_iast hx hb hK hP hD hS hN_Xpicture rfl hin d_M_paint_94 (fun ws H locs hP hD hS hN_Xpicture hfr => ?_)
          have hN_Xpicture : zA ws 22 (aXpicture, .inl (cI, Xpicture_n, .inl (upd Xpicture_f_648 v5_647.toNatClampNeg q650))) := hN_Xpicture
          have hN_X := (hfr _ (by decide)).trans hN_X
          have hw := z_fr (by decide) hw hfr
          refine lv_iinc (v := (v5_647 + 1)) (lv' := [(5, .int (v5_647 + 1)), (4, .int (v4_646 + (0 : Int32))), (8, .int q650), (6, .long (((x2.toInt64 * (v5_647 - v5_647 / X_side * X_side).toInt64) + (x3.toInt64 * (v5_647 / X_side).toInt64)) + x1.toInt64)), (0, .ref aX), (1, .int x1), (2, .int x2), (3, .int x3)]) hx hb d_M_paint_95 hl (k := 7) rfl rfl (by decide) rfl (fun ls hl => ?_)
          refine lv_goto (tgt := 11) hx hb d_M_paint_98 (by decide) ?_
          exact ih (v4_646 + (0 : Int32)) (v5_647 + 1) (upd Xpicture_f_648 v5_647.toNatClampNeg q650) _ _ _ ls _ hf (lv_sub hl [4, 5, 6, 7, 1, 0] rfl) hP hD hS hN_X hN_Xpicture hw kt0
  obtain ⟨q645, hc, hf⟩ := z_b hf
  refine lp649 _ FU (0 : Int32) (0 : Int32) Xpicture_f _ _ _ ls q645 hc (lv_sub hl [2, 3, 4, 5, 1, 0] rfl) hP hD hS hN_X hN_Xpicture hw (fun ws H locs ls hl hP hD hS hN_X hN_Xpicture hw => ?_)
  refine lv_iload hx hb d_M_paint_101 (lv_at hl 4 rfl) ?_
  obtain rfl := Option.some.inj hf
  exact W.iret hx hb hr (fun t ht hW => ⟨⟨_, ws, rfl, ⟨rfl, hN_X, hN_Xpicture, hw⟩, by rw [ht]; exact hP, va_K.moved hW.alike hK, hD⟩, hS.F ht⟩) hS.2.2 d_M_paint_103
def f_M_block (x1 : Int32) (x2 : Int32) (X_code : Int32) (X_many : Int32) (Xblocks_n : Nat) (Xblocks_f : Nat → Int32) : Option (Int32 × Int32) := (f_M_in x1.toInt64 (0 : Int64) ((X_many - (1 : Int32)).toInt64)).bind (fun q652 => if q652 = 0 then (if (1 : Int32) ≤ 0 then (if (((8 : Int32) * x1) + x2) < 0 ∨ Xblocks_n ≤ (((8 : Int32) * x1) + x2).toNatClampNeg then none else (some ((Xblocks_f (((8 : Int32) * x1) + x2).toNatClampNeg), (1 : Int32)))) else (some ((0 : Int32), (1 : Int32)))) else ((f_M_in x2.toInt64 (0 : Int64) (7 : Int64)).bind (fun q654 => if q654 = 0 then (if (2 : Int32) ≤ 0 then (if (((8 : Int32) * x1) + x2) < 0 ∨ Xblocks_n ≤ (((8 : Int32) * x1) + x2).toNatClampNeg then none else (some ((Xblocks_f (((8 : Int32) * x1) + x2).toNatClampNeg), (2 : Int32)))) else (some ((0 : Int32), (2 : Int32)))) else (if (0 : Int32) ≤ 0 then (if (((8 : Int32) * x1) + x2) < 0 ∨ Xblocks_n ≤ (((8 : Int32) * x1) + x2).toNatClampNeg then none else (some ((Xblocks_f (((8 : Int32) * x1) + x2).toNatClampNeg), (0 : Int32)))) else (some ((0 : Int32), (0 : Int32)))))))
set_option maxHeartbeats 4000000 in
set_option maxRecDepth 100000 in
theorem c_M_block (l : Launch) (dC : Nat → ClassId) (dI : Nat → Nat → Nat) (cI cL : ClassId) {ws0 : va_W} (sz : Nat) {aX aXpicture aXhalf aXblocks aXencoded aXfed aXpile aXnews aXolds aXhalves aXds aXrs aXbest : Nat} {X_code X_side X_many X_found X_encodedBits X_fedMany X_readAt X_why X_tried X_waiting X_decoded : Int32} {X_bestError : Int64} {Xblocks_n : Nat} {Xblocks_f : Nat → Int32} (x1 : Int32) (x2 : Int32) (hN_X : zA ws0 21 (aX, .inr (7, [.int X_code, .int X_side, .ref aXpicture, .ref aXhalf, .int X_many, .ref aXblocks, .int X_found, .int X_encodedBits, .ref aXencoded, .int X_fedMany, .ref aXfed, .int X_readAt, .int X_why, .int X_tried, .int X_waiting, .ref aXpile, .int X_decoded, .ref aXnews, .ref aXolds, .ref aXhalves, .ref aXds, .ref aXrs, .ref aXbest, .long X_bestError]))) (hN_Xblocks : zA ws0 24 (aXblocks, .inl (cI, Xblocks_n, .inl Xblocks_f))) (r : Int32 × Int32) (hf : f_M_block x1 x2 X_code X_many Xblocks_n Xblocks_f = some r) : Met l y_M_block w_M_block rm_M_block (va_Pc [.ref aX, .int x1, .int x2] (zM dC dI cI cL ws0 sz)) (va_Qi (fun (v : Int32) (ws' : va_W) => v = r.1 ∧ zA ws' 21 (aX, .inr (7, [.int r.2, .int X_side, .ref aXpicture, .ref aXhalf, .int X_many, .ref aXblocks, .int X_found, .int X_encodedBits, .ref aXencoded, .int X_fedMany, .ref aXfed, .int X_readAt, .int X_why, .int X_tried, .int X_waiting, .ref aXpile, .int X_decoded, .ref aXnews, .ref aXolds, .ref aXhalves, .ref aXds, .ref aXrs, .ref aXbest, .long X_bestError])) ∧ ∀ (j : Nat), j ∉ ([21] : List Nat) → ws'[j]? = ws0[j]?) (zQ dC dI cI cL (va_A ws0 sz)) (va_A ws0 sz)) 0 0 (va_A ws0 sz) := by
  refine Met.ofW (cc := b_M_block) (maxL := 3) (ret := some .int) (by decide) rfl ?_
  intro p e s m args below meth c s₁ B hml hv
  obtain ⟨rfl, hsz, hP, hK, hZ, hD0⟩ := hv
  have hx := B.exec
  have hb := B.bytes
  have hr := B.returns
  have hlocks := B.notSynchronized
  have hts : ∀ w ∈ BIG, w.before ([.ref aX, .int x1, .int x2] : List Value).toArray s = true := fun w h => atoms_spec (ws := w_M_block) B.pre w (List.mem_cons_of_mem _ h)
  have hown : s.vm.findClass "FractalMapsModel" = some m.cls := findClass_of_methodNamed B.named
  subst hsz
  have hD := hD0.self (sz := s.heap.size)
  generalize hAe : va_A ws0 s.heap.size = A at hD ⊢
  have hA : ∀ q : Nat, s.heap.size ≤ q → A q := fun q h => by rw [← hAe]; exact Or.inr h
  have hS : va_S A s.heap s.heap [] := va_S.rf
  have hw : ∀ (j : Nat), j ∉ ([21] : List Nat) → ws0[j]? = ws0[j]? := fun _ _ => rfl
  have hl := lv_entry ([.ref aX, .int x1, .int x2]) (n := 3) (Nat.le_of_ble_eq_true rfl)
  rw [lg_entry_eq]
  generalize (lg_sl ([.ref aX, .int x1, .int x2]) ++ List.replicate (3 - (lg_sl ([.ref aX, .int x1, .int x2])).length) Slot.unset).toArray = ls at hl ⊢
  have hl : lv_has ls 3 [(0, .ref aX), (1, .int x1), (2, .int x2)] := hl
  unfold f_M_block at hf
  refine lv_aload_n hx hb d_M_block_0 rfl (lv_at hl 0 rfl) ?_
  refine lv_iload_n hx hb d_M_block_1 rfl (lv_at hl 1 rfl) ?_
  refine lv_i2l hx hb d_M_block_2 rfl ?_
  refine lv_lconst (v := 0) hx hb d_M_block_3 (by decide) ?_
  refine lv_aload_n hx hb d_M_block_4 rfl (lv_at hl 0 rfl) ?_
  refine gf_M_123 (v := .int X_many) hx hb hts hown hK hP hN_X rfl d_M_block_5 ?_
  refine lv_iconst (v := 1) hx hb d_M_block_8 (by decide) ?_
  refine lv_isub hx hb d_M_block_9 ?_
  refine lv_i2l hx hb d_M_block_10 rfl ?_
  obtain ⟨q652, hc, hf⟩ := z_b hf
  refine vp_callSi (z_cr (va_runS (As := [.long x1.toInt64, .long (0 : Int64), .long ((X_many - (1 : Int32)).toInt64)]) (rest := [.ref aX]) ⟨hx, hb, hml, hown, hts⟩ (c_M_in l x1.toInt64 (0 : Int64) ((X_many - (1 : Int32)).toInt64) q652 hc) (cw_M_55 hts ⟨Nat.le_of_ble_eq_true rfl, Nat.le_of_ble_eq_true rfl⟩) ⟨zb0, zp0⟩ rfl rfl hl.1 rfl (lv_room (Nat.le_of_ble_eq_true rfl)) d_M_block_11 ⟨Nat.zero_le _, Nat.zero_le _⟩)) (fun r653 hv => ?_)
  have hv := hv.symm
  subst hv
  refine lv_if_ne (tgt := 21) hx hb d_M_block_14 (by decide) (fun hc => ?_) (fun hc => ?_)
  · have hf := z_f hc hf
    refine lv_iload_n hx hb d_M_block_21 rfl (lv_at hl 2 rfl) ?_
    refine lv_i2l hx hb d_M_block_22 rfl ?_
    refine lv_lconst (v := 0) hx hb d_M_block_23 (by decide) ?_
    refine lv_ldc2 (v := 7) hx hb hown (hts _ lk_M_157) d_M_block_24 ?_
    obtain ⟨q654, hc, hf⟩ := z_b hf
    refine vp_callSi (z_cr (va_runS (As := [.long x2.toInt64, .long (0 : Int64), .long (7 : Int64)]) (rest := [.ref aX]) ⟨hx, hb, hml, hown, hts⟩ (c_M_in l x2.toInt64 (0 : Int64) (7 : Int64) q654 hc) (cw_M_55 hts ⟨Nat.le_of_ble_eq_true rfl, Nat.le_of_ble_eq_true rfl⟩) ⟨zb0, zp0⟩ rfl rfl hl.1 rfl (lv_room (Nat.le_of_ble_eq_true rfl)) d_M_block_27 ⟨Nat.zero_le _, Nat.zero_le _⟩)) (fun r655 hv => ?_)
    have hv := hv.symm
    subst hv
    refine lv_if_ne (tgt := 37) hx hb d_M_block_30 (by decide) (fun hc => ?_) (fun hc => ?_)
    · have hf := z_f hc hf
      refine lv_iconst (v := 0) hx hb d_M_block_37 (by decide) ?_
      refine pf_M_50 (v := .int (0 : Int32)) hx hb hts hown hK hP hD hS hN_X rfl rfl (Nat.le_of_ble_eq_true rfl) d_M_block_38 (fun ws H locs hP hD hS hN_X hfr => ?_)
      have hN_X : zA ws 21 (aX, .inr (7, [.int (0 : Int32), .int X_side, .ref aXpicture, .ref aXhalf, .int X_many, .ref aXblocks, .int X_found, .int X_encodedBits, .ref aXencoded, .int X_fedMany, .ref aXfed, .int X_readAt, .int X_why, .int X_tried, .int X_waiting, .ref aXpile, .int X_decoded, .ref aXnews, .ref aXolds, .ref aXhalves, .ref aXds, .ref aXrs, .ref aXbest, .long X_bestError])) := hN_X
      have hN_Xblocks := (hfr _ (by decide)).trans hN_Xblocks
      have hw := z_fr (by decide) hw hfr
      refine lv_aload_n hx hb d_M_block_41 rfl (lv_at hl 0 rfl) ?_
      refine gf_M_50 (v := .int (0 : Int32)) hx hb hts hown hK hP hN_X rfl d_M_block_42 ?_
      refine lv_if_le (tgt := 52) hx hb d_M_block_45 (by decide) (fun hc => ?_) (fun hc => ?_)
      · have hf := z_t hc hf
        refine lv_aload_n hx hb d_M_block_52 rfl (lv_at hl 0 rfl) ?_
        refine gf_M_16 (v := .ref aXblocks) hx hb hts hown hK hP hN_X rfl d_M_block_53 ?_
        refine lv_bipush (v := 8) hx hb d_M_block_56 (by decide) ?_
        refine lv_iload_n hx hb d_M_block_58 rfl (lv_at hl 1 rfl) ?_
        refine lv_imul hx hb d_M_block_59 ?_
        refine lv_iload_n hx hb d_M_block_60 rfl (lv_at hl 2 rfl) ?_
        refine lv_iadd hx hb d_M_block_61 ?_
        obtain ⟨hin, hf⟩ := z_no hf
        refine va_iald hx hb hK hP _ 0 hN_Xblocks rfl hin d_M_block_62 ?_
        obtain rfl := Option.some.inj hf
        exact W.iret hx hb hr (fun t ht hW => ⟨⟨_, ws, rfl, ⟨rfl, hN_X, hw⟩, by rw [ht]; exact hP, va_K.moved hW.alike hK, hD⟩, hS.F ht⟩) hS.2.2 d_M_block_63
      · have hf := z_f hc hf
        refine lv_iconst (v := 0) hx hb d_M_block_48 (by decide) ?_
        refine lv_goto (tgt := 63) hx hb d_M_block_49 (by decide) ?_
        obtain rfl := Option.some.inj hf
        exact W.iret hx hb hr (fun t ht hW => ⟨⟨_, ws, rfl, ⟨rfl, hN_X, hw⟩, by rw [ht]; exact hP, va_K.moved hW.alike hK, hD⟩, hS.F ht⟩) hS.2.2 d_M_block_63
    · have hf := z_t hc hf
      refine lv_iconst (v := 2) hx hb d_M_block_33 (by decide) ?_
      refine lv_goto (tgt := 38) hx hb d_M_block_34 (by decide) ?_
      refine pf_M_50 (v := .int (2 : Int32)) hx hb hts hown hK hP hD hS hN_X rfl rfl (Nat.le_of_ble_eq_true rfl) d_M_block_38 (fun ws H locs hP hD hS hN_X hfr => ?_)
      have hN_X : zA ws 21 (aX, .inr (7, [.int (2 : Int32), .int X_side, .ref aXpicture, .ref aXhalf, .int X_many, .ref aXblocks, .int X_found, .int X_encodedBits, .ref aXencoded, .int X_fedMany, .ref aXfed, .int X_readAt, .int X_why, .int X_tried, .int X_waiting, .ref aXpile, .int X_decoded, .ref aXnews, .ref aXolds, .ref aXhalves, .ref aXds, .ref aXrs, .ref aXbest, .long X_bestError])) := hN_X
      have hN_Xblocks := (hfr _ (by decide)).trans hN_Xblocks
      have hw := z_fr (by decide) hw hfr
      refine lv_aload_n hx hb d_M_block_41 rfl (lv_at hl 0 rfl) ?_
      refine gf_M_50 (v := .int (2 : Int32)) hx hb hts hown hK hP hN_X rfl d_M_block_42 ?_
      refine lv_if_le (tgt := 52) hx hb d_M_block_45 (by decide) (fun hc => ?_) (fun hc => ?_)
      · have hf := z_t hc hf
        refine lv_aload_n hx hb d_M_block_52 rfl (lv_at hl 0 rfl) ?_
        refine gf_M_16 (v := .ref aXblocks) hx hb hts hown hK hP hN_X rfl d_M_block_53 ?_
        refine lv_bipush (v := 8) hx hb d_M_block_56 (by decide) ?_
        refine lv_iload_n hx hb d_M_block_58 rfl (lv_at hl 1 rfl) ?_
        refine lv_imul hx hb d_M_block_59 ?_
        refine lv_iload_n hx hb d_M_block_60 rfl (lv_at hl 2 rfl) ?_
        refine lv_iadd hx hb d_M_block_61 ?_
        obtain ⟨hin, hf⟩ := z_no hf
        refine va_iald hx hb hK hP _ 0 hN_Xblocks rfl hin d_M_block_62 ?_
        obtain rfl := Option.some.inj hf
        exact W.iret hx hb hr (fun t ht hW => ⟨⟨_, ws, rfl, ⟨rfl, hN_X, hw⟩, by rw [ht]; exact hP, va_K.moved hW.alike hK, hD⟩, hS.F ht⟩) hS.2.2 d_M_block_63
      · have hf := z_f hc hf
        refine lv_iconst (v := 0) hx hb d_M_block_48 (by decide) ?_
        refine lv_goto (tgt := 63) hx hb d_M_block_49 (by decide) ?_
        obtain rfl := Option.some.inj hf
        exact W.iret hx hb hr (fun t ht hW => ⟨⟨_, ws, rfl, ⟨rfl, hN_X, hw⟩, by rw [ht]; exact hP, va_K.moved hW.alike hK, hD⟩, hS.F ht⟩) hS.2.2 d_M_block_63
  · have hf := z_t hc hf
    refine lv_iconst (v := 1) hx hb d_M_block_17 (by decide) ?_
    refine lv_goto (tgt := 38) hx hb d_M_block_18 (by decide) ?_
    refine pf_M_50 (v := .int (1 : Int32)) hx hb hts hown hK hP hD hS hN_X rfl rfl (Nat.le_of_ble_eq_true rfl) d_M_block_38 (fun ws H locs hP hD hS hN_X hfr => ?_)
    have hN_X : zA ws 21 (aX, .inr (7, [.int (1 : Int32), .int X_side, .ref aXpicture, .ref aXhalf, .int X_many, .ref aXblocks, .int X_found, .int X_encodedBits, .ref aXencoded, .int X_fedMany, .ref aXfed, .int X_readAt, .int X_why, .int X_tried, .int X_waiting, .ref aXpile, .int X_decoded, .ref aXnews, .ref aXolds, .ref aXhalves, .ref aXds, .ref aXrs, .ref aXbest, .long X_bestError])) := hN_X
    have hN_Xblocks := (hfr _ (by decide)).trans hN_Xblocks
    have hw := z_fr (by decide) hw hfr
    refine lv_aload_n hx hb d_M_block_41 rfl (lv_at hl 0 rfl) ?_
    refine gf_M_50 (v := .int (1 : Int32)) hx hb hts hown hK hP hN_X rfl d_M_block_42 ?_
    refine lv_if_le (tgt := 52) hx hb d_M_block_45 (by decide) (fun hc => ?_) (fun hc => ?_)
    · have hf := z_t hc hf
      refine lv_aload_n hx hb d_M_block_52 rfl (lv_at hl 0 rfl) ?_
      refine gf_M_16 (v := .ref aXblocks) hx hb hts hown hK hP hN_X rfl d_M_block_53 ?_
      refine lv_bipush (v := 8) hx hb d_M_block_56 (by decide) ?_
      refine lv_iload_n hx hb d_M_block_58 rfl (lv_at hl 1 rfl) ?_
      refine lv_imul hx hb d_M_block_59 ?_
      refine lv_iload_n hx hb d_M_block_60 rfl (lv_at hl 2 rfl) ?_
      refine lv_iadd hx hb d_M_block_61 ?_
      obtain ⟨hin, hf⟩ := z_no hf
      refine va_iald hx hb hK hP _ 0 hN_Xblocks rfl hin d_M_block_62 ?_
      obtain rfl := Option.some.inj hf
      exact W.iret hx hb hr (fun t ht hW => ⟨⟨_, ws, rfl, ⟨rfl, hN_X, hw⟩, by rw [ht]; exact hP, va_K.moved hW.alike hK, hD⟩, hS.F ht⟩) hS.2.2 d_M_block_63
    · have hf := z_f hc hf
      refine lv_iconst (v := 0) hx hb d_M_block_48 (by decide) ?_
      refine lv_goto (tgt := 63) hx hb d_M_block_49 (by decide) ?_
      obtain rfl := Option.some.inj hf
      exact W.iret hx hb hr (fun t ht hW => ⟨⟨_, ws, rfl, ⟨rfl, hN_X, hw⟩, by rw [ht]; exact hP, va_K.moved hW.alike hK, hD⟩, hS.F ht⟩) hS.2.2 d_M_block_63
def f_M_bytes (X_encodedBits : Int32) : Option (Int32) := some ((X_encodedBits + (7 : Int32)) / (8 : Int32))
set_option maxHeartbeats 4000000 in
set_option maxRecDepth 100000 in
theorem c_M_bytes (l : Launch) (dC : Nat → ClassId) (dI : Nat → Nat → Nat) (cI cL : ClassId) {ws : va_W} {aX aXpicture aXhalf aXblocks aXencoded aXfed aXpile aXnews aXolds aXhalves aXds aXrs aXbest : Nat} {X_code X_side X_many X_found X_encodedBits X_fedMany X_readAt X_why X_tried X_waiting X_decoded : Int32} {X_bestError : Int64} (hN_X : zA ws 21 (aX, .inr (7, [.int X_code, .int X_side, .ref aXpicture, .ref aXhalf, .int X_many, .ref aXblocks, .int X_found, .int X_encodedBits, .ref aXencoded, .int X_fedMany, .ref aXfed, .int X_readAt, .int X_why, .int X_tried, .int X_waiting, .ref aXpile, .int X_decoded, .ref aXnews, .ref aXolds, .ref aXhalves, .ref aXds, .ref aXrs, .ref aXbest, .long X_bestError]))) (r : Int32) (hf : f_M_bytes X_encodedBits = some r) : Met l y_M_bytes w_M_bytes rm_M_bytes (va_Pc [.ref aX] (zR dC dI cI cL ws)) (vp_Si (fun v => v = r)) 0 0 (fun _ => False) := by
  refine Met.ofW (cc := b_M_bytes) (maxL := 1) (ret := some .int) (by decide) rfl ?_
  intro p e s m args below meth c s₁ B hml hv
  obtain ⟨rfl, hP, hK, hZ⟩ := hv
  have hx := B.exec
  have hb := B.bytes
  have hr := B.returns
  have hlocks := B.notSynchronized
  have hts : ∀ w ∈ BIG, w.before ([.ref aX] : List Value).toArray s = true := fun w h => atoms_spec (ws := w_M_bytes) B.pre w (List.mem_cons_of_mem _ h)
  have hown : s.vm.findClass "FractalMapsModel" = some m.cls := findClass_of_methodNamed B.named
  have hl := lv_entry ([.ref aX]) (n := 1) (Nat.le_of_ble_eq_true rfl)
  rw [lg_entry_eq]
  generalize (lg_sl ([.ref aX]) ++ List.replicate (1 - (lg_sl ([.ref aX])).length) Slot.unset).toArray = ls at hl ⊢
  have hl : lv_has ls 1 [(0, .ref aX)] := hl
  unfold f_M_bytes at hf
  refine lv_aload_n hx hb d_M_bytes_0 rfl (lv_at hl 0 rfl) ?_
  refine gf_M_126 (v := .int X_encodedBits) hx hb hts hown hK hP hN_X rfl d_M_bytes_1 ?_
  refine lv_bipush (v := 7) hx hb d_M_bytes_4 (by decide) ?_
  refine lv_iadd hx hb d_M_bytes_6 ?_
  refine lv_bipush (v := 8) hx hb d_M_bytes_7 (by decide) ?_
  refine lv_idiv hx hb d_M_bytes_9 (by decide) ?_
  obtain rfl := Option.some.inj hf
  exact W.iret hx hb hr (fun t ht hW => ⟨_, rfl, rfl, ht⟩) (fun q h => by cases h) d_M_bytes_10
def f_M_byteAt (x1 : Int32) (X_code : Int32) (X_encodedBits : Int32) (Xencoded_n : Nat) (Xencoded_f : Nat → Int32) : Option (Int32 × Int32) := (f_M_bytes X_encodedBits).bind (fun q656 => (f_M_in x1.toInt64 (0 : Int64) ((q656 - (1 : Int32)).toInt64)).bind (fun q658 => if q658 = 0 then (if (1 : Int32) ≤ 0 then (if x1 < 0 ∨ Xencoded_n ≤ x1.toNatClampNeg then none else (some ((Xencoded_f x1.toNatClampNeg), (1 : Int32)))) else (some ((0 : Int32), (1 : Int32)))) else (if (0 : Int32) ≤ 0 then (if x1 < 0 ∨ Xencoded_n ≤ x1.toNatClampNeg then none else (some ((Xencoded_f x1.toNatClampNeg), (0 : Int32)))) else (some ((0 : Int32), (0 : Int32))))))
set_option maxHeartbeats 4000000 in
set_option maxRecDepth 100000 in
theorem c_M_byteAt (l : Launch) (dC : Nat → ClassId) (dI : Nat → Nat → Nat) (cI cL : ClassId) {ws0 : va_W} (sz : Nat) {aX aXpicture aXhalf aXblocks aXencoded aXfed aXpile aXnews aXolds aXhalves aXds aXrs aXbest : Nat} {X_code X_side X_many X_found X_encodedBits X_fedMany X_readAt X_why X_tried X_waiting X_decoded : Int32} {X_bestError : Int64} {Xencoded_n : Nat} {Xencoded_f : Nat → Int32} (x1 : Int32) (hN_X : zA ws0 21 (aX, .inr (7, [.int X_code, .int X_side, .ref aXpicture, .ref aXhalf, .int X_many, .ref aXblocks, .int X_found, .int X_encodedBits, .ref aXencoded, .int X_fedMany, .ref aXfed, .int X_readAt, .int X_why, .int X_tried, .int X_waiting, .ref aXpile, .int X_decoded, .ref aXnews, .ref aXolds, .ref aXhalves, .ref aXds, .ref aXrs, .ref aXbest, .long X_bestError]))) (hN_Xencoded : zA ws0 25 (aXencoded, .inl (cI, Xencoded_n, .inl Xencoded_f))) (r : Int32 × Int32) (hf : f_M_byteAt x1 X_code X_encodedBits Xencoded_n Xencoded_f = some r) : Met l y_M_byteAt w_M_byteAt rm_M_byteAt (va_Pc [.ref aX, .int x1] (zM dC dI cI cL ws0 sz)) (va_Qi (fun (v : Int32) (ws' : va_W) => v = r.1 ∧ zA ws' 21 (aX, .inr (7, [.int r.2, .int X_side, .ref aXpicture, .ref aXhalf, .int X_many, .ref aXblocks, .int X_found, .int X_encodedBits, .ref aXencoded, .int X_fedMany, .ref aXfed, .int X_readAt, .int X_why, .int X_tried, .int X_waiting, .ref aXpile, .int X_decoded, .ref aXnews, .ref aXolds, .ref aXhalves, .ref aXds, .ref aXrs, .ref aXbest, .long X_bestError])) ∧ ∀ (j : Nat), j ∉ ([21] : List Nat) → ws'[j]? = ws0[j]?) (zQ dC dI cI cL (va_A ws0 sz)) (va_A ws0 sz)) 0 0 (va_A ws0 sz) := by
  refine Met.ofW (cc := b_M_byteAt) (maxL := 2) (ret := some .int) (by decide) rfl ?_
  intro p e s m args below meth c s₁ B hml hv
  obtain ⟨rfl, hsz, hP, hK, hZ, hD0⟩ := hv
  have hx := B.exec
  have hb := B.bytes
  have hr := B.returns
  have hlocks := B.notSynchronized
  have hts : ∀ w ∈ BIG, w.before ([.ref aX, .int x1] : List Value).toArray s = true := fun w h => atoms_spec (ws := w_M_byteAt) B.pre w (List.mem_cons_of_mem _ h)
  have hown : s.vm.findClass "FractalMapsModel" = some m.cls := findClass_of_methodNamed B.named
  subst hsz
  have hD := hD0.self (sz := s.heap.size)
  generalize hAe : va_A ws0 s.heap.size = A at hD ⊢
  have hA : ∀ q : Nat, s.heap.size ≤ q → A q := fun q h => by rw [← hAe]; exact Or.inr h
  have hS : va_S A s.heap s.heap [] := va_S.rf
  have hw : ∀ (j : Nat), j ∉ ([21] : List Nat) → ws0[j]? = ws0[j]? := fun _ _ => rfl
  have hl := lv_entry ([.ref aX, .int x1]) (n := 2) (Nat.le_of_ble_eq_true rfl)
  rw [lg_entry_eq]
  generalize (lg_sl ([.ref aX, .int x1]) ++ List.replicate (2 - (lg_sl ([.ref aX, .int x1])).length) Slot.unset).toArray = ls at hl ⊢
  have hl : lv_has ls 2 [(0, .ref aX), (1, .int x1)] := hl
  unfold f_M_byteAt at hf
  refine lv_aload_n hx hb d_M_byteAt_0 rfl (lv_at hl 0 rfl) ?_
  refine lv_iload_n hx hb d_M_byteAt_1 rfl (lv_at hl 1 rfl) ?_
  refine lv_i2l hx hb d_M_byteAt_2 rfl ?_
  refine lv_lconst (v := 0) hx hb d_M_byteAt_3 (by decide) ?_
  refine lv_aload_n hx hb d_M_byteAt_4 rfl (lv_at hl 0 rfl) ?_
  obtain ⟨q656, hc, hf⟩ := z_b hf
  refine vp_callSi (z_cr (va_runV (As := []) (rest := [.long (0 : Int64), .long x1.toInt64, .ref aX]) ⟨hx, hb, hml, hown, hts⟩ (c_M_bytes l dC dI cI cL hN_X q656 hc) (cw_M_159 hts ⟨Nat.le_of_ble_eq_true rfl, Nat.le_of_ble_eq_true rfl⟩) ⟨zbR, va_recv hK hP (ci := 7) rfl hN_X, (zpR hP hK hZ)⟩ rfl rfl hl.1 rfl (lv_room (Nat.le_of_ble_eq_true rfl)) d_M_byteAt_5 ⟨Nat.zero_le _, Nat.zero_le _⟩)) (fun r657 hv => ?_)
  have hv := hv.symm
  subst hv
  refine lv_iconst (v := 1) hx hb d_M_byteAt_8 (by decide) ?_
  refine lv_isub hx hb d_M_byteAt_9 ?_
  refine lv_i2l hx hb d_M_byteAt_10 rfl ?_
  obtain ⟨q658, hc, hf⟩ := z_b hf
  refine vp_callSi (z_cr (va_runS (As := [.long x1.toInt64, .long (0 : Int64), .long ((q656 - (1 : Int32)).toInt64)]) (rest := [.ref aX]) ⟨hx, hb, hml, hown, hts⟩ (c_M_in l x1.toInt64 (0 : Int64) ((q656 - (1 : Int32)).toInt64) q658 hc) (cw_M_55 hts ⟨Nat.le_of_ble_eq_true rfl, Nat.le_of_ble_eq_true rfl⟩) ⟨zb0, zp0⟩ rfl rfl hl.1 rfl (lv_room (Nat.le_of_ble_eq_true rfl)) d_M_byteAt_11 ⟨Nat.zero_le _, Nat.zero_le _⟩)) (fun r659 hv => ?_)
  have hv := hv.symm
  subst hv
  refine lv_if_eq (tgt := 21) hx hb d_M_byteAt_14 (by decide) (fun hc => ?_) (fun hc => ?_)
  · have hf := z_t hc hf
    refine lv_iconst (v := 1) hx hb d_M_byteAt_21 (by decide) ?_
    refine pf_M_50 (v := .int (1 : Int32)) hx hb hts hown hK hP hD hS hN_X rfl rfl (Nat.le_of_ble_eq_true rfl) d_M_byteAt_22 (fun ws H locs hP hD hS hN_X hfr => ?_)
    have hN_X : zA ws 21 (aX, .inr (7, [.int (1 : Int32), .int X_side, .ref aXpicture, .ref aXhalf, .int X_many, .ref aXblocks, .int X_found, .int X_encodedBits, .ref aXencoded, .int X_fedMany, .ref aXfed, .int X_readAt, .int X_why, .int X_tried, .int X_waiting, .ref aXpile, .int X_decoded, .ref aXnews, .ref aXolds, .ref aXhalves, .ref aXds, .ref aXrs, .ref aXbest, .long X_bestError])) := hN_X
    have hN_Xencoded := (hfr _ (by decide)).trans hN_Xencoded
    have hw := z_fr (by decide) hw hfr
    refine lv_aload_n hx hb d_M_byteAt_25 rfl (lv_at hl 0 rfl) ?_
    refine gf_M_50 (v := .int (1 : Int32)) hx hb hts hown hK hP hN_X rfl d_M_byteAt_26 ?_
    refine lv_if_le (tgt := 36) hx hb d_M_byteAt_29 (by decide) (fun hc => ?_) (fun hc => ?_)
    · have hf := z_t hc hf
      refine lv_aload_n hx hb d_M_byteAt_36 rfl (lv_at hl 0 rfl) ?_
      refine gf_M_19 (v := .ref aXencoded) hx hb hts hown hK hP hN_X rfl d_M_byteAt_37 ?_
      refine lv_iload_n hx hb d_M_byteAt_40 rfl (lv_at hl 1 rfl) ?_
      obtain ⟨hin, hf⟩ := z_no hf
      refine va_iald hx hb hK hP _ 0 hN_Xencoded rfl hin d_M_byteAt_41 ?_
      obtain rfl := Option.some.inj hf
      exact W.iret hx hb hr (fun t ht hW => ⟨⟨_, ws, rfl, ⟨rfl, hN_X, hw⟩, by rw [ht]; exact hP, va_K.moved hW.alike hK, hD⟩, hS.F ht⟩) hS.2.2 d_M_byteAt_42
    · have hf := z_f hc hf
      refine lv_iconst (v := 0) hx hb d_M_byteAt_32 (by decide) ?_
      refine lv_goto (tgt := 42) hx hb d_M_byteAt_33 (by decide) ?_
      obtain rfl := Option.some.inj hf
      exact W.iret hx hb hr (fun t ht hW => ⟨⟨_, ws, rfl, ⟨rfl, hN_X, hw⟩, by rw [ht]; exact hP, va_K.moved hW.alike hK, hD⟩, hS.F ht⟩) hS.2.2 d_M_byteAt_42
  · have hf := z_f hc hf
    refine lv_iconst (v := 0) hx hb d_M_byteAt_17 (by decide) ?_
    refine lv_goto (tgt := 22) hx hb d_M_byteAt_18 (by decide) ?_
    refine pf_M_50 (v := .int (0 : Int32)) hx hb hts hown hK hP hD hS hN_X rfl rfl (Nat.le_of_ble_eq_true rfl) d_M_byteAt_22 (fun ws H locs hP hD hS hN_X hfr => ?_)
    have hN_X : zA ws 21 (aX, .inr (7, [.int (0 : Int32), .int X_side, .ref aXpicture, .ref aXhalf, .int X_many, .ref aXblocks, .int X_found, .int X_encodedBits, .ref aXencoded, .int X_fedMany, .ref aXfed, .int X_readAt, .int X_why, .int X_tried, .int X_waiting, .ref aXpile, .int X_decoded, .ref aXnews, .ref aXolds, .ref aXhalves, .ref aXds, .ref aXrs, .ref aXbest, .long X_bestError])) := hN_X
    have hN_Xencoded := (hfr _ (by decide)).trans hN_Xencoded
    have hw := z_fr (by decide) hw hfr
    refine lv_aload_n hx hb d_M_byteAt_25 rfl (lv_at hl 0 rfl) ?_
    refine gf_M_50 (v := .int (0 : Int32)) hx hb hts hown hK hP hN_X rfl d_M_byteAt_26 ?_
    refine lv_if_le (tgt := 36) hx hb d_M_byteAt_29 (by decide) (fun hc => ?_) (fun hc => ?_)
    · have hf := z_t hc hf
      refine lv_aload_n hx hb d_M_byteAt_36 rfl (lv_at hl 0 rfl) ?_
      refine gf_M_19 (v := .ref aXencoded) hx hb hts hown hK hP hN_X rfl d_M_byteAt_37 ?_
      refine lv_iload_n hx hb d_M_byteAt_40 rfl (lv_at hl 1 rfl) ?_
      obtain ⟨hin, hf⟩ := z_no hf
      refine va_iald hx hb hK hP _ 0 hN_Xencoded rfl hin d_M_byteAt_41 ?_
      obtain rfl := Option.some.inj hf
      exact W.iret hx hb hr (fun t ht hW => ⟨⟨_, ws, rfl, ⟨rfl, hN_X, hw⟩, by rw [ht]; exact hP, va_K.moved hW.alike hK, hD⟩, hS.F ht⟩) hS.2.2 d_M_byteAt_42
    · have hf := z_f hc hf
      refine lv_iconst (v := 0) hx hb d_M_byteAt_32 (by decide) ?_
      refine lv_goto (tgt := 42) hx hb d_M_byteAt_33 (by decide) ?_
      obtain rfl := Option.some.inj hf
      exact W.iret hx hb hr (fun t ht hW => ⟨⟨_, ws, rfl, ⟨rfl, hN_X, hw⟩, by rw [ht]; exact hP, va_K.moved hW.alike hK, hD⟩, hS.F ht⟩) hS.2.2 d_M_byteAt_42
