def f_M_feed (x1 : Int32) (X_code : Int32) (X_fedMany : Int32) (Xfed_n : Nat) (Xfed_f : Nat → Int32) : Option (Int32 × Int32 × Int32 × (Nat → Int32)) := (f_M_in x1.toInt64 (0 : Int64) (255 : Int64)).bind (fun q660 => if q660 = 0 then (if (1 : Int32) ≤ 0 then (if X_fedMany < 0 ∨ Xfed_n ≤ X_fedMany.toNatClampNeg then none else (some ((X_fedMany + (1 : Int32)), (1 : Int32), (X_fedMany + (1 : Int32)), (upd Xfed_f X_fedMany.toNatClampNeg x1)))) else (some ((0 : Int32), (1 : Int32), X_fedMany, Xfed_f))) else (if X_fedMany = (2000 : Int32) then (if (2 : Int32) ≤ 0 then (if X_fedMany < 0 ∨ Xfed_n ≤ X_fedMany.toNatClampNeg then none else (some ((X_fedMany + (1 : Int32)), (2 : Int32), (X_fedMany + (1 : Int32)), (upd Xfed_f X_fedMany.toNatClampNeg x1)))) else (some ((0 : Int32), (2 : Int32), X_fedMany, Xfed_f))) else (if (0 : Int32) ≤ 0 then (if X_fedMany < 0 ∨ Xfed_n ≤ X_fedMany.toNatClampNeg then none else (some ((X_fedMany + (1 : Int32)), (0 : Int32), (X_fedMany + (1 : Int32)), (upd Xfed_f X_fedMany.toNatClampNeg x1)))) else (some ((0 : Int32), (0 : Int32), X_fedMany, Xfed_f)))))
set_option maxHeartbeats 4000000 in
set_option maxRecDepth 100000 in
theorem c_M_feed (l : Launch) (dC : Nat → ClassId) (dI : Nat → Nat → Nat) (cI cL : ClassId) {ws0 : va_W} (sz : Nat) {aX aXpicture aXhalf aXblocks aXencoded aXfed aXpile aXnews aXolds aXhalves aXds aXrs aXbest : Nat} {X_code X_side X_many X_found X_encodedBits X_fedMany X_readAt X_why X_tried X_waiting X_decoded : Int32} {X_bestError : Int64} {Xfed_n : Nat} {Xfed_f : Nat → Int32} (x1 : Int32) (hN_X : zA ws0 21 (aX, .inr (7, [.int X_code, .int X_side, .ref aXpicture, .ref aXhalf, .int X_many, .ref aXblocks, .int X_found, .int X_encodedBits, .ref aXencoded, .int X_fedMany, .ref aXfed, .int X_readAt, .int X_why, .int X_tried, .int X_waiting, .ref aXpile, .int X_decoded, .ref aXnews, .ref aXolds, .ref aXhalves, .ref aXds, .ref aXrs, .ref aXbest, .long X_bestError]))) (hN_Xfed : zA ws0 26 (aXfed, .inl (cI, Xfed_n, .inl Xfed_f))) (r : Int32 × Int32 × Int32 × (Nat → Int32)) (hf : f_M_feed x1 X_code X_fedMany Xfed_n Xfed_f = some r) : Met l y_M_feed w_M_feed rm_M_feed (va_Pc [.ref aX, .int x1] (zM dC dI cI cL ws0 sz)) (va_Qi (fun (v : Int32) (ws' : va_W) => v = r.1 ∧ zA ws' 21 (aX, .inr (7, [.int r.2.1, .int X_side, .ref aXpicture, .ref aXhalf, .int X_many, .ref aXblocks, .int X_found, .int X_encodedBits, .ref aXencoded, .int r.2.2.1, .ref aXfed, .int X_readAt, .int X_why, .int X_tried, .int X_waiting, .ref aXpile, .int X_decoded, .ref aXnews, .ref aXolds, .ref aXhalves, .ref aXds, .ref aXrs, .ref aXbest, .long X_bestError])) ∧ zA ws' 26 (aXfed, .inl (cI, Xfed_n, .inl r.2.2.2)) ∧ ∀ (j : Nat), j ∉ ([21, 26] : List Nat) → ws'[j]? = ws0[j]?) (zQ dC dI cI cL (va_A ws0 sz)) (va_A ws0 sz)) 0 0 (va_A ws0 sz) := by
  refine Met.ofW (cc := b_M_feed) (maxL := 2) (ret := some .int) (by decide) rfl ?_
  intro p e s m args below meth c s₁ B hml hv
  obtain ⟨rfl, hsz, hP, hK, hZ, hD0⟩ := hv
  have hx := B.exec
  have hb := B.bytes
  have hr := B.returns
  have hlocks := B.notSynchronized
  have hts : ∀ w ∈ BIG, w.before ([.ref aX, .int x1] : List Value).toArray s = true := fun w h => atoms_spec (ws := w_M_feed) B.pre w (List.mem_cons_of_mem _ h)
  have hown : s.vm.findClass "FractalMapsModel" = some m.cls := findClass_of_methodNamed B.named
  subst hsz
  have hD := hD0.self (sz := s.heap.size)
  generalize hAe : va_A ws0 s.heap.size = A at hD ⊢
  have hA : ∀ q : Nat, s.heap.size ≤ q → A q := fun q h => by rw [← hAe]; exact Or.inr h
  have hS : va_S A s.heap s.heap [] := va_S.rf
  have hw : ∀ (j : Nat), j ∉ ([21, 26] : List Nat) → ws0[j]? = ws0[j]? := fun _ _ => rfl
  have hl := lv_entry ([.ref aX, .int x1]) (n := 2) (Nat.le_of_ble_eq_true rfl)
  rw [lg_entry_eq]
  generalize (lg_sl ([.ref aX, .int x1]) ++ List.replicate (2 - (lg_sl ([.ref aX, .int x1])).length) Slot.unset).toArray = ls at hl ⊢
  have hl : lv_has ls 2 [(0, .ref aX), (1, .int x1)] := hl
  unfold f_M_feed at hf
  refine lv_aload_n hx hb d_M_feed_0 rfl (lv_at hl 0 rfl) ?_
  refine lv_iload_n hx hb d_M_feed_1 rfl (lv_at hl 1 rfl) ?_
  refine lv_i2l hx hb d_M_feed_2 rfl ?_
  refine lv_lconst (v := 0) hx hb d_M_feed_3 (by decide) ?_
  refine lv_ldc2 (v := 255) hx hb hown (hts _ lk_M_63) d_M_feed_4 ?_
  obtain ⟨q660, hc, hf⟩ := z_b hf
  refine vp_callSi (z_cr (va_runS (As := [.long x1.toInt64, .long (0 : Int64), .long (255 : Int64)]) (rest := [.ref aX]) ⟨hx, hb, hml, hown, hts⟩ (c_M_in l x1.toInt64 (0 : Int64) (255 : Int64) q660 hc) (cw_M_55 hts ⟨Nat.le_of_ble_eq_true rfl, Nat.le_of_ble_eq_true rfl⟩) ⟨zb0, zp0⟩ rfl rfl hl.1 rfl (lv_room (Nat.le_of_ble_eq_true rfl)) d_M_feed_7 ⟨Nat.zero_le _, Nat.zero_le _⟩)) (fun r661 hv => ?_)
  have hv := hv.symm
  subst hv
  refine lv_if_ne (tgt := 17) hx hb d_M_feed_10 (by decide) (fun hc => ?_) (fun hc => ?_)
  · have hf := z_f hc hf
    refine lv_aload_n hx hb d_M_feed_17 rfl (lv_at hl 0 rfl) ?_
    refine gf_M_163 (v := .int X_fedMany) hx hb hts hown hK hP hN_X rfl d_M_feed_18 ?_
    refine lv_sipush (v := 2000) hx hb d_M_feed_21 (by decide) ?_
    refine lv_icmp_ne (tgt := 31) hx hb d_M_feed_24 (by decide) (fun hc => ?_) (fun hc => ?_)
    · have hf := z_f hc hf
      refine lv_iconst (v := 0) hx hb d_M_feed_31 (by decide) ?_
      refine pf_M_50 (v := .int (0 : Int32)) hx hb hts hown hK hP hD hS hN_X rfl rfl (Nat.le_of_ble_eq_true rfl) d_M_feed_32 (fun ws H locs hP hD hS hN_X hfr => ?_)
      have hN_X : zA ws 21 (aX, .inr (7, [.int (0 : Int32), .int X_side, .ref aXpicture, .ref aXhalf, .int X_many, .ref aXblocks, .int X_found, .int X_encodedBits, .ref aXencoded, .int X_fedMany, .ref aXfed, .int X_readAt, .int X_why, .int X_tried, .int X_waiting, .ref aXpile, .int X_decoded, .ref aXnews, .ref aXolds, .ref aXhalves, .ref aXds, .ref aXrs, .ref aXbest, .long X_bestError])) := hN_X
      have hN_Xfed := (hfr _ (by decide)).trans hN_Xfed
      have hw := z_fr (by decide) hw hfr
      refine lv_aload_n hx hb d_M_feed_35 rfl (lv_at hl 0 rfl) ?_
      refine gf_M_50 (v := .int (0 : Int32)) hx hb hts hown hK hP hN_X rfl d_M_feed_36 ?_
      refine lv_if_le (tgt := 44) hx hb d_M_feed_39 (by decide) (fun hc => ?_) (fun hc => ?_)
      · have hf := z_t hc hf
        refine lv_aload_n hx hb d_M_feed_44 rfl (lv_at hl 0 rfl) ?_
        refine gf_M_22 (v := .ref aXfed) hx hb hts hown hK hP hN_X rfl d_M_feed_45 ?_
        refine lv_aload_n hx hb d_M_feed_48 rfl (lv_at hl 0 rfl) ?_
        refine gf_M_163 (v := .int X_fedMany) hx hb hts hown hK hP hN_X rfl d_M_feed_49 ?_
        refine lv_iload_n hx hb d_M_feed_52 rfl (lv_at hl 1 rfl) ?_
        obtain ⟨hin, hf⟩ := z_no hf
        refine z_iast hx hb hK hP hD hS hN_Xfed rfl hin d_M_feed_53 (fun ws H locs hP hD hS hN_Xfed hfr => ?_)
        have hN_Xfed : zA ws 26 (aXfed, .inl (cI, Xfed_n, .inl (upd Xfed_f X_fedMany.toNatClampNeg x1))) := hN_Xfed
        have hN_X := (hfr _ (by decide)).trans hN_X
        have hw := z_fr (by decide) hw hfr
        refine lv_aload_n hx hb d_M_feed_54 rfl (lv_at hl 0 rfl) ?_
        refine lv_dup hx hb d_M_feed_55 rfl ?_
        refine gf_M_163 (v := .int X_fedMany) hx hb hts hown hK hP hN_X rfl d_M_feed_56 ?_
        refine lv_iconst (v := 1) hx hb d_M_feed_59 (by decide) ?_
        refine lv_iadd hx hb d_M_feed_60 ?_
        refine pf_M_163 (v := .int (X_fedMany + (1 : Int32))) hx hb hts hown hK hP hD hS hN_X rfl rfl (Nat.le_of_ble_eq_true rfl) d_M_feed_61 (fun ws H locs hP hD hS hN_X hfr => ?_)
        have hN_X : zA ws 21 (aX, .inr (7, [.int (0 : Int32), .int X_side, .ref aXpicture, .ref aXhalf, .int X_many, .ref aXblocks, .int X_found, .int X_encodedBits, .ref aXencoded, .int (X_fedMany + (1 : Int32)), .ref aXfed, .int X_readAt, .int X_why, .int X_tried, .int X_waiting, .ref aXpile, .int X_decoded, .ref aXnews, .ref aXolds, .ref aXhalves, .ref aXds, .ref aXrs, .ref aXbest, .long X_bestError])) := hN_X
        have hN_Xfed := (hfr _ (by decide)).trans hN_Xfed
        have hw := z_fr (by decide) hw hfr
        refine lv_aload_n hx hb d_M_feed_64 rfl (lv_at hl 0 rfl) ?_
        refine gf_M_163 (v := .int (X_fedMany + (1 : Int32))) hx hb hts hown hK hP hN_X rfl d_M_feed_65 ?_
        obtain rfl := Option.some.inj hf
        exact W.iret hx hb hr (fun t ht hW => ⟨⟨_, ws, rfl, ⟨rfl, hN_X, hN_Xfed, hw⟩, by rw [ht]; exact hP, va_K.moved hW.alike hK, hD⟩, hS.F ht⟩) hS.2.2 d_M_feed_68
      · have hf := z_f hc hf
        refine lv_iconst (v := 0) hx hb d_M_feed_42 (by decide) ?_
        obtain rfl := Option.some.inj hf
        exact W.iret hx hb hr (fun t ht hW => ⟨⟨_, ws, rfl, ⟨rfl, hN_X, hN_Xfed, hw⟩, by rw [ht]; exact hP, va_K.moved hW.alike hK, hD⟩, hS.F ht⟩) hS.2.2 d_M_feed_43
    · have hf := z_t hc hf
      refine lv_iconst (v := 2) hx hb d_M_feed_27 (by decide) ?_
      refine lv_goto (tgt := 32) hx hb d_M_feed_28 (by decide) ?_
      refine pf_M_50 (v := .int (2 : Int32)) hx hb hts hown hK hP hD hS hN_X rfl rfl (Nat.le_of_ble_eq_true rfl) d_M_feed_32 (fun ws H locs hP hD hS hN_X hfr => ?_)
      have hN_X : zA ws 21 (aX, .inr (7, [.int (2 : Int32), .int X_side, .ref aXpicture, .ref aXhalf, .int X_many, .ref aXblocks, .int X_found, .int X_encodedBits, .ref aXencoded, .int X_fedMany, .ref aXfed, .int X_readAt, .int X_why, .int X_tried, .int X_waiting, .ref aXpile, .int X_decoded, .ref aXnews, .ref aXolds, .ref aXhalves, .ref aXds, .ref aXrs, .ref aXbest, .long X_bestError])) := hN_X
      have hN_Xfed := (hfr _ (by decide)).trans hN_Xfed
      have hw := z_fr (by decide) hw hfr
      refine lv_aload_n hx hb d_M_feed_35 rfl (lv_at hl 0 rfl) ?_
      refine gf_M_50 (v := .int (2 : Int32)) hx hb hts hown hK hP hN_X rfl d_M_feed_36 ?_
      refine lv_if_le (tgt := 44) hx hb d_M_feed_39 (by decide) (fun hc => ?_) (fun hc => ?_)
      · have hf := z_t hc hf
        refine lv_aload_n hx hb d_M_feed_44 rfl (lv_at hl 0 rfl) ?_
        refine gf_M_22 (v := .ref aXfed) hx hb hts hown hK hP hN_X rfl d_M_feed_45 ?_
        refine lv_aload_n hx hb d_M_feed_48 rfl (lv_at hl 0 rfl) ?_
        refine gf_M_163 (v := .int X_fedMany) hx hb hts hown hK hP hN_X rfl d_M_feed_49 ?_
        refine lv_iload_n hx hb d_M_feed_52 rfl (lv_at hl 1 rfl) ?_
        obtain ⟨hin, hf⟩ := z_no hf
        refine z_iast hx hb hK hP hD hS hN_Xfed rfl hin d_M_feed_53 (fun ws H locs hP hD hS hN_Xfed hfr => ?_)
        have hN_Xfed : zA ws 26 (aXfed, .inl (cI, Xfed_n, .inl (upd Xfed_f X_fedMany.toNatClampNeg x1))) := hN_Xfed
        have hN_X := (hfr _ (by decide)).trans hN_X
        have hw := z_fr (by decide) hw hfr
        refine lv_aload_n hx hb d_M_feed_54 rfl (lv_at hl 0 rfl) ?_
        refine lv_dup hx hb d_M_feed_55 rfl ?_
        refine gf_M_163 (v := .int X_fedMany) hx hb hts hown hK hP hN_X rfl d_M_feed_56 ?_
        refine lv_iconst (v := 1) hx hb d_M_feed_59 (by decide) ?_
        refine lv_iadd hx hb d_M_feed_60 ?_
        refine pf_M_163 (v := .int (X_fedMany + (1 : Int32))) hx hb hts hown hK hP hD hS hN_X rfl rfl (Nat.le_of_ble_eq_true rfl) d_M_feed_61 (fun ws H locs hP hD hS hN_X hfr => ?_)
        have hN_X : zA ws 21 (aX, .inr (7, [.int (2 : Int32), .int X_side, .ref aXpicture, .ref aXhalf, .int X_many, .ref aXblocks, .int X_found, .int X_encodedBits, .ref aXencoded, .int (X_fedMany + (1 : Int32)), .ref aXfed, .int X_readAt, .int X_why, .int X_tried, .int X_waiting, .ref aXpile, .int X_decoded, .ref aXnews, .ref aXolds, .ref aXhalves, .ref aXds, .ref aXrs, .ref aXbest, .long X_bestError])) := hN_X
        have hN_Xfed := (hfr _ (by decide)).trans hN_Xfed
        have hw := z_fr (by decide) hw hfr
        refine lv_aload_n hx hb d_M_feed_64 rfl (lv_at hl 0 rfl) ?_
        refine gf_M_163 (v := .int (X_fedMany + (1 : Int32))) hx hb hts hown hK hP hN_X rfl d_M_feed_65 ?_
        obtain rfl := Option.some.inj hf
        exact W.iret hx hb hr (fun t ht hW => ⟨⟨_, ws, rfl, ⟨rfl, hN_X, hN_Xfed, hw⟩, by rw [ht]; exact hP, va_K.moved hW.alike hK, hD⟩, hS.F ht⟩) hS.2.2 d_M_feed_68
      · have hf := z_f hc hf
        refine lv_iconst (v := 0) hx hb d_M_feed_42 (by decide) ?_
        obtain rfl := Option.some.inj hf
        exact W.iret hx hb hr (fun t ht hW => ⟨⟨_, ws, rfl, ⟨rfl, hN_X, hN_Xfed, hw⟩, by rw [ht]; exact hP, va_K.moved hW.alike hK, hD⟩, hS.F ht⟩) hS.2.2 d_M_feed_43
  · have hf := z_t hc hf
    refine lv_iconst (v := 1) hx hb d_M_feed_13 (by decide) ?_
    refine lv_goto (tgt := 32) hx hb d_M_feed_14 (by decide) ?_
    refine pf_M_50 (v := .int (1 : Int32)) hx hb hts hown hK hP hD hS hN_X rfl rfl (Nat.le_of_ble_eq_true rfl) d_M_feed_32 (fun ws H locs hP hD hS hN_X hfr => ?_)
    have hN_X : zA ws 21 (aX, .inr (7, [.int (1 : Int32), .int X_side, .ref aXpicture, .ref aXhalf, .int X_many, .ref aXblocks, .int X_found, .int X_encodedBits, .ref aXencoded, .int X_fedMany, .ref aXfed, .int X_readAt, .int X_why, .int X_tried, .int X_waiting, .ref aXpile, .int X_decoded, .ref aXnews, .ref aXolds, .ref aXhalves, .ref aXds, .ref aXrs, .ref aXbest, .long X_bestError])) := hN_X
    have hN_Xfed := (hfr _ (by decide)).trans hN_Xfed
    have hw := z_fr (by decide) hw hfr
    refine lv_aload_n hx hb d_M_feed_35 rfl (lv_at hl 0 rfl) ?_
    refine gf_M_50 (v := .int (1 : Int32)) hx hb hts hown hK hP hN_X rfl d_M_feed_36 ?_
    refine lv_if_le (tgt := 44) hx hb d_M_feed_39 (by decide) (fun hc => ?_) (fun hc => ?_)
    · have hf := z_t hc hf
      refine lv_aload_n hx hb d_M_feed_44 rfl (lv_at hl 0 rfl) ?_
      refine gf_M_22 (v := .ref aXfed) hx hb hts hown hK hP hN_X rfl d_M_feed_45 ?_
      refine lv_aload_n hx hb d_M_feed_48 rfl (lv_at hl 0 rfl) ?_
      refine gf_M_163 (v := .int X_fedMany) hx hb hts hown hK hP hN_X rfl d_M_feed_49 ?_
      refine lv_iload_n hx hb d_M_feed_52 rfl (lv_at hl 1 rfl) ?_
      obtain ⟨hin, hf⟩ := z_no hf
      refine z_iast hx hb hK hP hD hS hN_Xfed rfl hin d_M_feed_53 (fun ws H locs hP hD hS hN_Xfed hfr => ?_)
      have hN_Xfed : zA ws 26 (aXfed, .inl (cI, Xfed_n, .inl (upd Xfed_f X_fedMany.toNatClampNeg x1))) := hN_Xfed
      have hN_X := (hfr _ (by decide)).trans hN_X
      have hw := z_fr (by decide) hw hfr
      refine lv_aload_n hx hb d_M_feed_54 rfl (lv_at hl 0 rfl) ?_
      refine lv_dup hx hb d_M_feed_55 rfl ?_
      refine gf_M_163 (v := .int X_fedMany) hx hb hts hown hK hP hN_X rfl d_M_feed_56 ?_
      refine lv_iconst (v := 1) hx hb d_M_feed_59 (by decide) ?_
      refine lv_iadd hx hb d_M_feed_60 ?_
      refine pf_M_163 (v := .int (X_fedMany + (1 : Int32))) hx hb hts hown hK hP hD hS hN_X rfl rfl (Nat.le_of_ble_eq_true rfl) d_M_feed_61 (fun ws H locs hP hD hS hN_X hfr => ?_)
      have hN_X : zA ws 21 (aX, .inr (7, [.int (1 : Int32), .int X_side, .ref aXpicture, .ref aXhalf, .int X_many, .ref aXblocks, .int X_found, .int X_encodedBits, .ref aXencoded, .int (X_fedMany + (1 : Int32)), .ref aXfed, .int X_readAt, .int X_why, .int X_tried, .int X_waiting, .ref aXpile, .int X_decoded, .ref aXnews, .ref aXolds, .ref aXhalves, .ref aXds, .ref aXrs, .ref aXbest, .long X_bestError])) := hN_X
      have hN_Xfed := (hfr _ (by decide)).trans hN_Xfed
      have hw := z_fr (by decide) hw hfr
      refine lv_aload_n hx hb d_M_feed_64 rfl (lv_at hl 0 rfl) ?_
      refine gf_M_163 (v := .int (X_fedMany + (1 : Int32))) hx hb hts hown hK hP hN_X rfl d_M_feed_65 ?_
      obtain rfl := Option.some.inj hf
      exact W.iret hx hb hr (fun t ht hW => ⟨⟨_, ws, rfl, ⟨rfl, hN_X, hN_Xfed, hw⟩, by rw [ht]; exact hP, va_K.moved hW.alike hK, hD⟩, hS.F ht⟩) hS.2.2 d_M_feed_68
    · have hf := z_f hc hf
      refine lv_iconst (v := 0) hx hb d_M_feed_42 (by decide) ?_
      obtain rfl := Option.some.inj hf
      exact W.iret hx hb hr (fun t ht hW => ⟨⟨_, ws, rfl, ⟨rfl, hN_X, hN_Xfed, hw⟩, by rw [ht]; exact hP, va_K.moved hW.alike hK, hD⟩, hS.F ht⟩) hS.2.2 d_M_feed_43
def f_M_pass_26 (X_code : Int32) (X_encodedBits : Int32) (Xencoded_n : Nat) (Xencoded_f : Nat → Int32) (Xfed_n : Nat) : Nat → Int32 → Int32 → (Nat → Int32) → Option (Int32 × Int32 × (Nat → Int32))
  | 0, _, _, _ => none
  | n + 1, v1, X_fedMany, Xfed_f => (f_M_bytes X_encodedBits).bind (fun q664 => if q664 ≤ v1 then (some (v1, X_fedMany, Xfed_f)) else (if X_code = 0 then (if v1 < 0 ∨ Xencoded_n ≤ v1.toNatClampNeg then none else (if X_fedMany < 0 ∨ Xfed_n ≤ X_fedMany.toNatClampNeg then none else (f_M_pass_26 X_code X_encodedBits Xencoded_n Xencoded_f Xfed_n n (v1 + 1) (X_fedMany + (1 : Int32)) (upd Xfed_f X_fedMany.toNatClampNeg (Xencoded_f v1.toNatClampNeg))))) else (some (v1, X_fedMany, Xfed_f))))
def f_M_pass (X_code : Int32) (X_encodedBits : Int32) (X_fedMany : Int32) (Xencoded_n : Nat) (Xencoded_f : Nat → Int32) (Xfed_n : Nat) (Xfed_f : Nat → Int32) : Option (Int32 × Int32 × Int32 × (Nat → Int32)) := (f_M_bytes X_encodedBits).bind (fun q662 => if (X_fedMany + q662) ≤ (2000 : Int32) then ((f_M_pass_26 (0 : Int32) X_encodedBits Xencoded_n Xencoded_f Xfed_n FU (0 : Int32) X_fedMany Xfed_f).bind (fun q666 => if (0 : Int32) ≤ 0 then (some (q666.2.1, (0 : Int32), q666.2.1, q666.2.2)) else (some ((0 : Int32), (0 : Int32), q666.2.1, q666.2.2)))) else ((f_M_pass_26 (1 : Int32) X_encodedBits Xencoded_n Xencoded_f Xfed_n FU (0 : Int32) X_fedMany Xfed_f).bind (fun q673 => if (1 : Int32) ≤ 0 then (some (q673.2.1, (1 : Int32), q673.2.1, q673.2.2)) else (some ((0 : Int32), (1 : Int32), q673.2.1, q673.2.2)))))
set_option maxHeartbeats 4000000 in
set_option maxRecDepth 100000 in
theorem c_M_pass (l : Launch) (dC : Nat → ClassId) (dI : Nat → Nat → Nat) (cI cL : ClassId) {ws0 : va_W} (sz : Nat) {aX aXpicture aXhalf aXblocks aXencoded aXfed aXpile aXnews aXolds aXhalves aXds aXrs aXbest : Nat} {X_code X_side X_many X_found X_encodedBits X_fedMany X_readAt X_why X_tried X_waiting X_decoded : Int32} {X_bestError : Int64} {Xencoded_n Xfed_n : Nat} {Xencoded_f Xfed_f : Nat → Int32} (hN_X : zA ws0 21 (aX, .inr (7, [.int X_code, .int X_side, .ref aXpicture, .ref aXhalf, .int X_many, .ref aXblocks, .int X_found, .int X_encodedBits, .ref aXencoded, .int X_fedMany, .ref aXfed, .int X_readAt, .int X_why, .int X_tried, .int X_waiting, .ref aXpile, .int X_decoded, .ref aXnews, .ref aXolds, .ref aXhalves, .ref aXds, .ref aXrs, .ref aXbest, .long X_bestError]))) (hN_Xencoded : zA ws0 25 (aXencoded, .inl (cI, Xencoded_n, .inl Xencoded_f))) (hN_Xfed : zA ws0 26 (aXfed, .inl (cI, Xfed_n, .inl Xfed_f))) (r : Int32 × Int32 × Int32 × (Nat → Int32)) (hf : f_M_pass X_code X_encodedBits X_fedMany Xencoded_n Xencoded_f Xfed_n Xfed_f = some r) : Met l y_M_pass w_M_pass rm_M_pass (va_Pc [.ref aX] (zM dC dI cI cL ws0 sz)) (va_Qi (fun (v : Int32) (ws' : va_W) => v = r.1 ∧ zA ws' 21 (aX, .inr (7, [.int r.2.1, .int X_side, .ref aXpicture, .ref aXhalf, .int X_many, .ref aXblocks, .int X_found, .int X_encodedBits, .ref aXencoded, .int r.2.2.1, .ref aXfed, .int X_readAt, .int X_why, .int X_tried, .int X_waiting, .ref aXpile, .int X_decoded, .ref aXnews, .ref aXolds, .ref aXhalves, .ref aXds, .ref aXrs, .ref aXbest, .long X_bestError])) ∧ zA ws' 26 (aXfed, .inl (cI, Xfed_n, .inl r.2.2.2)) ∧ ∀ (j : Nat), j ∉ ([21, 26] : List Nat) → ws'[j]? = ws0[j]?) (zQ dC dI cI cL (va_A ws0 sz)) (va_A ws0 sz)) 0 0 (va_A ws0 sz) := by
  refine Met.ofW (cc := b_M_pass) (maxL := 2) (ret := some .int) (by decide) rfl ?_
  intro p e s m args below meth c s₁ B hml hv
  obtain ⟨rfl, hsz, hP, hK, hZ, hD0⟩ := hv
  have hx := B.exec
  have hb := B.bytes
  have hr := B.returns
  have hlocks := B.notSynchronized
  have hts : ∀ w ∈ BIG, w.before ([.ref aX] : List Value).toArray s = true := fun w h => atoms_spec (ws := w_M_pass) B.pre w (List.mem_cons_of_mem _ h)
  have hown : s.vm.findClass "FractalMapsModel" = some m.cls := findClass_of_methodNamed B.named
  subst hsz
  have hD := hD0.self (sz := s.heap.size)
  generalize hAe : va_A ws0 s.heap.size = A at hD ⊢
  have hA : ∀ q : Nat, s.heap.size ≤ q → A q := fun q h => by rw [← hAe]; exact Or.inr h
  have hS : va_S A s.heap s.heap [] := va_S.rf
  have hw : ∀ (j : Nat), j ∉ ([21, 26] : List Nat) → ws0[j]? = ws0[j]? := fun _ _ => rfl
  have hl := lv_entry ([.ref aX]) (n := 2) (Nat.le_of_ble_eq_true rfl)
  rw [lg_entry_eq]
  generalize (lg_sl ([.ref aX]) ++ List.replicate (2 - (lg_sl ([.ref aX])).length) Slot.unset).toArray = ls at hl ⊢
  have hl : lv_has ls 2 [(0, .ref aX)] := hl
  unfold f_M_pass at hf
  refine lv_aload_n hx hb d_M_pass_0 rfl (lv_at hl 0 rfl) ?_
  refine lv_aload_n hx hb d_M_pass_1 rfl (lv_at hl 0 rfl) ?_
  refine gf_M_163 (v := .int X_fedMany) hx hb hts hown hK hP hN_X rfl d_M_pass_2 ?_
  refine lv_aload_n hx hb d_M_pass_5 rfl (lv_at hl 0 rfl) ?_
  obtain ⟨q662, hc, hf⟩ := z_b hf
  refine vp_callSi (z_cr (va_runV (As := []) (rest := [.int X_fedMany, .ref aX]) ⟨hx, hb, hml, hown, hts⟩ (c_M_bytes l dC dI cI cL hN_X q662 hc) (cw_M_159 hts ⟨Nat.le_of_ble_eq_true rfl, Nat.le_of_ble_eq_true rfl⟩) ⟨zbR, va_recv hK hP (ci := 7) rfl hN_X, (zpR hP hK hZ)⟩ rfl rfl hl.1 rfl (lv_room (Nat.le_of_ble_eq_true rfl)) d_M_pass_6 ⟨Nat.zero_le _, Nat.zero_le _⟩)) (fun r663 hv => ?_)
  have hv := hv.symm
  subst hv
  refine lv_iadd hx hb d_M_pass_9 ?_
  refine lv_sipush (v := 2000) hx hb d_M_pass_10 (by decide) ?_
  refine lv_icmp_le (tgt := 20) hx hb d_M_pass_13 (by decide) (fun hc => ?_) (fun hc => ?_)
  · have hf := z_t hc hf
    refine lv_iconst (v := 0) hx hb d_M_pass_20 (by decide) ?_
    refine pf_M_50 (v := .int (0 : Int32)) hx hb hts hown hK hP hD hS hN_X rfl rfl (Nat.le_of_ble_eq_true rfl) d_M_pass_21 (fun ws H locs hP hD hS hN_X hfr => ?_)
    have hN_X : zA ws 21 (aX, .inr (7, [.int (0 : Int32), .int X_side, .ref aXpicture, .ref aXhalf, .int X_many, .ref aXblocks, .int X_found, .int X_encodedBits, .ref aXencoded, .int X_fedMany, .ref aXfed, .int X_readAt, .int X_why, .int X_tried, .int X_waiting, .ref aXpile, .int X_decoded, .ref aXnews, .ref aXolds, .ref aXhalves, .ref aXds, .ref aXrs, .ref aXbest, .long X_bestError])) := hN_X
    have hN_Xencoded := (hfr _ (by decide)).trans hN_Xencoded
    have hN_Xfed := (hfr _ (by decide)).trans hN_Xfed
    have hw := z_fr (by decide) hw hfr
    refine lv_iconst (v := 0) hx hb d_M_pass_24 (by decide) ?_
    refine lv_istore_n (lv' := [(1, .int (0 : Int32)), (0, .ref aX)]) hx hb d_M_pass_25 rfl hl (by decide) rfl (fun ls hl => ?_)
    have lp670 : ∀ (Qx : State → Prop) (n : Nat) (v1_667 : Int32) (X_fedMany_668 : Int32) (Xfed_f_669 : Nat → Int32) (ws : va_W) (H : Heap) (locs : List Loc) (ls : Array Slot) (q : Int32 × Int32 × (Nat → Int32)) (hf : f_M_pass_26 (0 : Int32) X_encodedBits Xencoded_n Xencoded_f Xfed_n n v1_667 X_fedMany_668 Xfed_f_669 = some q) (hl : lv_has ls 2 [(0, .ref aX), (1, .int v1_667)]) (hP : va_P (dC, dI) classes ws H) (hD : va_D A ws) (hS : va_S A s.heap H locs) (hN_X : zA ws 21 (aX, .inr (7, [.int (0 : Int32), .int X_side, .ref aXpicture, .ref aXhalf, .int X_many, .ref aXblocks, .int X_found, .int X_encodedBits, .ref aXencoded, .int X_fedMany_668, .ref aXfed, .int X_readAt, .int X_why, .int X_tried, .int X_waiting, .ref aXpile, .int X_decoded, .ref aXnews, .ref aXolds, .ref aXhalves, .ref aXds, .ref aXrs, .ref aXbest, .long X_bestError]))) (hN_Xencoded : zA ws 25 (aXencoded, .inl (cI, Xencoded_n, .inl Xencoded_f))) (hN_Xfed : zA ws 26 (aXfed, .inl (cI, Xfed_n, .inl Xfed_f_669))) (hw : ∀ (j : Nat), j ∉ ([21, 26] : List Nat) → ws[j]? = ws0[j]?) (kt0 : ∀ (ws : va_W) (H : Heap) (locs : List Loc) (ls : Array Slot), lv_has ls 2 [(0, .ref aX), (1, .int q.1)] → (va_P (dC, dI) classes ws H) → (va_D A ws) → (va_S A s.heap H locs) → (zA ws 21 (aX, .inr (7, [.int (0 : Int32), .int X_side, .ref aXpicture, .ref aXhalf, .int X_many, .ref aXblocks, .int X_found, .int X_encodedBits, .ref aXencoded, .int q.2.1, .ref aXfed, .int X_readAt, .int X_why, .int X_tried, .int X_waiting, .ref aXpile, .int X_decoded, .ref aXnews, .ref aXolds, .ref aXhalves, .ref aXds, .ref aXrs, .ref aXbest, .long X_bestError]))) → (zA ws 25 (aXencoded, .inl (cI, Xencoded_n, .inl Xencoded_f))) → (zA ws 26 (aXfed, .inl (cI, Xfed_n, .inl q.2.2))) → (∀ (j : Nat), j ∉ ([21, 26] : List Nat) → ws[j]? = ws0[j]?) → W p l e (headSpec w_M_pass rm_M_pass).room s m ([.ref aX] : List Value).toArray below meth c H locs 0 0 Qx (F0 m 72 ls [])), W p l e (headSpec w_M_pass rm_M_pass).room s m ([.ref aX] : List Value).toArray below meth c H locs 0 0 Qx (F0 m 26 ls []) := by
      intro Qx n
      induction n with
      | zero => intro v1_667 X_fedMany_668 Xfed_f_669 ws H locs ls q hf; cases hf
      | succ n ih =>
        intro v1_667 X_fedMany_668 Xfed_f_669 ws H locs ls q hf hl hP hD hS hN_X hN_Xencoded hN_Xfed hw kt0
        rw [f_M_pass_26] at hf
        refine lv_iload_n hx hb d_M_pass_26 rfl (lv_at hl 1 rfl) ?_
        refine lv_aload_n hx hb d_M_pass_27 rfl (lv_at hl 0 rfl) ?_
        obtain ⟨q671, hc, hf⟩ := z_b hf
        refine vp_callSi (z_cr (va_runV (As := []) (rest := [.int v1_667]) ⟨hx, hb, hml, hown, hts⟩ (c_M_bytes l dC dI cI cL hN_X q671 hc) (cw_M_159 hts ⟨Nat.le_of_ble_eq_true rfl, Nat.le_of_ble_eq_true rfl⟩) ⟨zbR, va_recv hK hP (ci := 7) rfl hN_X, (zpR hP hK hZ)⟩ rfl rfl hl.1 rfl (lv_room (Nat.le_of_ble_eq_true rfl)) d_M_pass_28 ⟨Nat.zero_le _, Nat.zero_le _⟩)) (fun r672 hv => ?_)
        have hv := hv.symm
        subst hv
        refine lv_icmp_ge (tgt := 72) hx hb d_M_pass_31 (by decide) (fun hc => ?_) (fun hc => ?_)
        · have hf := z_t hc hf
          obtain rfl := Option.some.inj hf
          exact kt0 _ _ _ ls (lv_sub hl [0, 1] rfl) hP hD hS hN_X hN_Xencoded hN_Xfed hw
        · have hf := z_f hc hf
          refine lv_aload_n hx hb d_M_pass_34 rfl (lv_at hl 0 rfl) ?_
          refine gf_M_50 (v := .int (0 : Int32)) hx hb hts hown hK hP hN_X rfl d_M_pass_35 ?_
          refine lv_if_ne (tgt := 72) hx hb d_M_pass_38 (by decide) (fun hc => ?_) (fun hc => ?_)
          · have hf := z_f hc hf
            obtain rfl := Option.some.inj hf
            exact kt0 _ _ _ ls (lv_sub hl [0, 1] rfl) hP hD hS hN_X hN_Xencoded hN_Xfed hw
          · have hf := z_t hc hf
            refine lv_aload_n hx hb d_M_pass_41 rfl (lv_at hl 0 rfl) ?_
            refine gf_M_22 (v := .ref aXfed) hx hb hts hown hK hP hN_X rfl d_M_pass_42 ?_
            refine lv_aload_n hx hb d_M_pass_45 rfl (lv_at hl 0 rfl) ?_
            refine gf_M_163 (v := .int X_fedMany_668) hx hb hts hown hK hP hN_X rfl d_M_pass_46 ?_
            refine lv_aload_n hx hb d_M_pass_49 rfl (lv_at hl 0 rfl) ?_
            refine gf_M_19 (v := .ref aXencoded) hx hb hts hown hK hP hN_X rfl d_M_pass_50 ?_
            refine lv_iload_n hx hb d_M_pass_53 rfl (lv_at hl 1 rfl) ?_
            obtain ⟨hin, hf⟩ := z_no hf
            refine va_iald hx hb hK hP _ 0 hN_Xencoded rfl hin d_M_pass_54 ?_
            obtain ⟨hin, hf⟩ := z_no hf
            refine z_iast hx hb hK hP hD hS hN_Xfed rfl hin d_M_pass_55 (fun ws H locs hP hD hS hN_Xfed hfr => ?_)
            have hN_Xfed : zA ws 26 (aXfed, .inl (cI, Xfed_n, .inl (upd Xfed_f_669 X_fedMany_668.toNatClampNeg (Xencoded_f v1_667.toNatClampNeg)))) := hN_Xfed
            have hN_X := (hfr _ (by decide)).trans hN_X
            have hN_Xencoded := (hfr _ (by decide)).trans hN_Xencoded
            have hw := z_fr (by decide) hw hfr
            refine lv_aload_n hx hb d_M_pass_56 rfl (lv_at hl 0 rfl) ?_
            refine lv_dup hx hb d_M_pass_57 rfl ?_
            refine gf_M_163 (v := .int X_fedMany_668) hx hb hts hown hK hP hN_X rfl d_M_pass_58 ?_
            refine lv_iconst (v := 1) hx hb d_M_pass_61 (by decide) ?_
            refine lv_iadd hx hb d_M_pass_62 ?_
            refine pf_M_163 (v := .int (X_fedMany_668 + (1 : Int32))) hx hb hts hown hK hP hD hS hN_X rfl rfl (Nat.le_of_ble_eq_true rfl) d_M_pass_63 (fun ws H locs hP hD hS hN_X hfr => ?_)
            have hN_X : zA ws 21 (aX, .inr (7, [.int (0 : Int32), .int X_side, .ref aXpicture, .ref aXhalf, .int X_many, .ref aXblocks, .int X_found, .int X_encodedBits, .ref aXencoded, .int (X_fedMany_668 + (1 : Int32)), .ref aXfed, .int X_readAt, .int X_why, .int X_tried, .int X_waiting, .ref aXpile, .int X_decoded, .ref aXnews, .ref aXolds, .ref aXhalves, .ref aXds, .ref aXrs, .ref aXbest, .long X_bestError])) := hN_X
            have hN_Xencoded := (hfr _ (by decide)).trans hN_Xencoded
            have hN_Xfed := (hfr _ (by decide)).trans hN_Xfed
            have hw := z_fr (by decide) hw hfr
            refine lv_iinc (v := (v1_667 + 1)) (lv' := [(1, .int (v1_667 + 1)), (0, .ref aX)]) hx hb d_M_pass_66 hl (k := 1) rfl rfl (by decide) rfl (fun ls hl => ?_)
            refine lv_goto (tgt := 26) hx hb d_M_pass_69 (by decide) ?_
            exact ih (v1_667 + 1) (X_fedMany_668 + (1 : Int32)) (upd Xfed_f_669 X_fedMany_668.toNatClampNeg (Xencoded_f v1_667.toNatClampNeg)) _ _ _ ls _ hf (lv_sub hl [1, 0] rfl) hP hD hS hN_X hN_Xencoded hN_Xfed hw kt0
    obtain ⟨q666, hc, hf⟩ := z_b hf
    refine lp670 _ FU (0 : Int32) X_fedMany Xfed_f _ _ _ ls q666 hc (lv_sub hl [1, 0] rfl) hP hD hS hN_X hN_Xencoded hN_Xfed hw (fun ws H locs ls hl hP hD hS hN_X hN_Xencoded hN_Xfed hw => ?_)
    refine lv_aload_n hx hb d_M_pass_72 rfl (lv_at hl 0 rfl) ?_
    refine gf_M_50 (v := .int (0 : Int32)) hx hb hts hown hK hP hN_X rfl d_M_pass_73 ?_
    refine lv_if_le (tgt := 83) hx hb d_M_pass_76 (by decide) (fun hc => ?_) (fun hc => ?_)
    · have hf := z_t hc hf
      refine lv_aload_n hx hb d_M_pass_83 rfl (lv_at hl 0 rfl) ?_
      refine gf_M_163 (v := .int q666.2.1) hx hb hts hown hK hP hN_X rfl d_M_pass_84 ?_
      obtain rfl := Option.some.inj hf
      exact W.iret hx hb hr (fun t ht hW => ⟨⟨_, ws, rfl, ⟨rfl, hN_X, hN_Xfed, hw⟩, by rw [ht]; exact hP, va_K.moved hW.alike hK, hD⟩, hS.F ht⟩) hS.2.2 d_M_pass_87
    · have hf := z_f hc hf
      refine lv_iconst (v := 0) hx hb d_M_pass_79 (by decide) ?_
      refine lv_goto (tgt := 87) hx hb d_M_pass_80 (by decide) ?_
      obtain rfl := Option.some.inj hf
      exact W.iret hx hb hr (fun t ht hW => ⟨⟨_, ws, rfl, ⟨rfl, hN_X, hN_Xfed, hw⟩, by rw [ht]; exact hP, va_K.moved hW.alike hK, hD⟩, hS.F ht⟩) hS.2.2 d_M_pass_87
  · have hf := z_f hc hf
    refine lv_iconst (v := 1) hx hb d_M_pass_16 (by decide) ?_
    refine lv_goto (tgt := 21) hx hb d_M_pass_17 (by decide) ?_
    refine pf_M_50 (v := .int (1 : Int32)) hx hb hts hown hK hP hD hS hN_X rfl rfl (Nat.le_of_ble_eq_true rfl) d_M_pass_21 (fun ws H locs hP hD hS hN_X hfr => ?_)
    have hN_X : zA ws 21 (aX, .inr (7, [.int (1 : Int32), .int X_side, .ref aXpicture, .ref aXhalf, .int X_many, .ref aXblocks, .int X_found, .int X_encodedBits, .ref aXencoded, .int X_fedMany, .ref aXfed, .int X_readAt, .int X_why, .int X_tried, .int X_waiting, .ref aXpile, .int X_decoded, .ref aXnews, .ref aXolds, .ref aXhalves, .ref aXds, .ref aXrs, .ref aXbest, .long X_bestError])) := hN_X
    have hN_Xencoded := (hfr _ (by decide)).trans hN_Xencoded
    have hN_Xfed := (hfr _ (by decide)).trans hN_Xfed
    have hw := z_fr (by decide) hw hfr
    refine lv_iconst (v := 0) hx hb d_M_pass_24 (by decide) ?_
    refine lv_istore_n (lv' := [(1, .int (0 : Int32)), (0, .ref aX)]) hx hb d_M_pass_25 rfl hl (by decide) rfl (fun ls hl => ?_)
    have lp677 : ∀ (Qx : State → Prop) (n : Nat) (v1_674 : Int32) (X_fedMany_675 : Int32) (Xfed_f_676 : Nat → Int32) (ws : va_W) (H : Heap) (locs : List Loc) (ls : Array Slot) (q : Int32 × Int32 × (Nat → Int32)) (hf : f_M_pass_26 (1 : Int32) X_encodedBits Xencoded_n Xencoded_f Xfed_n n v1_674 X_fedMany_675 Xfed_f_676 = some q) (hl : lv_has ls 2 [(0, .ref aX), (1, .int v1_674)]) (hP : va_P (dC, dI) classes ws H) (hD : va_D A ws) (hS : va_S A s.heap H locs) (hN_X : zA ws 21 (aX, .inr (7, [.int (1 : Int32), .int X_side, .ref aXpicture, .ref aXhalf, .int X_many, .ref aXblocks, .int X_found, .int X_encodedBits, .ref aXencoded, .int X_fedMany_675, .ref aXfed, .int X_readAt, .int X_why, .int X_tried, .int X_waiting, .ref aXpile, .int X_decoded, .ref aXnews, .ref aXolds, .ref aXhalves, .ref aXds, .ref aXrs, .ref aXbest, .long X_bestError]))) (hN_Xencoded : zA ws 25 (aXencoded, .inl (cI, Xencoded_n, .inl Xencoded_f))) (hN_Xfed : zA ws 26 (aXfed, .inl (cI, Xfed_n, .inl Xfed_f_676))) (hw : ∀ (j : Nat), j ∉ ([21, 26] : List Nat) → ws[j]? = ws0[j]?) (kt0 : ∀ (ws : va_W) (H : Heap) (locs : List Loc) (ls : Array Slot), lv_has ls 2 [(0, .ref aX), (1, .int q.1)] → (va_P (dC, dI) classes ws H) → (va_D A ws) → (va_S A s.heap H locs) → (zA ws 21 (aX, .inr (7, [.int (1 : Int32), .int X_side, .ref aXpicture, .ref aXhalf, .int X_many, .ref aXblocks, .int X_found, .int X_encodedBits, .ref aXencoded, .int q.2.1, .ref aXfed, .int X_readAt, .int X_why, .int X_tried, .int X_waiting, .ref aXpile, .int X_decoded, .ref aXnews, .ref aXolds, .ref aXhalves, .ref aXds, .ref aXrs, .ref aXbest, .long X_bestError]))) → (zA ws 25 (aXencoded, .inl (cI, Xencoded_n, .inl Xencoded_f))) → (zA ws 26 (aXfed, .inl (cI, Xfed_n, .inl q.2.2))) → (∀ (j : Nat), j ∉ ([21, 26] : List Nat) → ws[j]? = ws0[j]?) → W p l e (headSpec w_M_pass rm_M_pass).room s m ([.ref aX] : List Value).toArray below meth c H locs 0 0 Qx (F0 m 72 ls [])), W p l e (headSpec w_M_pass rm_M_pass).room s m ([.ref aX] : List Value).toArray below meth c H locs 0 0 Qx (F0 m 26 ls []) := by
      intro Qx n
      induction n with
      | zero => intro v1_674 X_fedMany_675 Xfed_f_676 ws H locs ls q hf; cases hf
      | succ n ih =>
        intro v1_674 X_fedMany_675 Xfed_f_676 ws H locs ls q hf hl hP hD hS hN_X hN_Xencoded hN_Xfed hw kt0
        rw [f_M_pass_26] at hf
        refine lv_iload_n hx hb d_M_pass_26 rfl (lv_at hl 1 rfl) ?_
        refine lv_aload_n hx hb d_M_pass_27 rfl (lv_at hl 0 rfl) ?_
        obtain ⟨q678, hc, hf⟩ := z_b hf
        refine vp_callSi (z_cr (va_runV (As := []) (rest := [.int v1_674]) ⟨hx, hb, hml, hown, hts⟩ (c_M_bytes l dC dI cI cL hN_X q678 hc) (cw_M_159 hts ⟨Nat.le_of_ble_eq_true rfl, Nat.le_of_ble_eq_true rfl⟩) ⟨zbR, va_recv hK hP (ci := 7) rfl hN_X, (zpR hP hK hZ)⟩ rfl rfl hl.1 rfl (lv_room (Nat.le_of_ble_eq_true rfl)) d_M_pass_28 ⟨Nat.zero_le _, Nat.zero_le _⟩)) (fun r679 hv => ?_)
        have hv := hv.symm
        subst hv
        refine lv_icmp_ge (tgt := 72) hx hb d_M_pass_31 (by decide) (fun hc => ?_) (fun hc => ?_)
        · have hf := z_t hc hf
          obtain rfl := Option.some.inj hf
          exact kt0 _ _ _ ls (lv_sub hl [0, 1] rfl) hP hD hS hN_X hN_Xencoded hN_Xfed hw
        · have hf := z_f hc hf
          refine lv_aload_n hx hb d_M_pass_34 rfl (lv_at hl 0 rfl) ?_
          refine gf_M_50 (v := .int (1 : Int32)) hx hb hts hown hK hP hN_X rfl d_M_pass_35 ?_
          refine lv_if_ne (tgt := 72) hx hb d_M_pass_38 (by decide) (fun hc => ?_) (fun hc => ?_)
          · have hf := z_f hc hf
            obtain rfl := Option.some.inj hf
            exact kt0 _ _ _ ls (lv_sub hl [0, 1] rfl) hP hD hS hN_X hN_Xencoded hN_Xfed hw
          · have hf := z_t hc hf
            refine lv_aload_n hx hb d_M_pass_41 rfl (lv_at hl 0 rfl) ?_
            refine gf_M_22 (v := .ref aXfed) hx hb hts hown hK hP hN_X rfl d_M_pass_42 ?_
            refine lv_aload_n hx hb d_M_pass_45 rfl (lv_at hl 0 rfl) ?_
            refine gf_M_163 (v := .int X_fedMany_675) hx hb hts hown hK hP hN_X rfl d_M_pass_46 ?_
            refine lv_aload_n hx hb d_M_pass_49 rfl (lv_at hl 0 rfl) ?_
            refine gf_M_19 (v := .ref aXencoded) hx hb hts hown hK hP hN_X rfl d_M_pass_50 ?_
            refine lv_iload_n hx hb d_M_pass_53 rfl (lv_at hl 1 rfl) ?_
            obtain ⟨hin, hf⟩ := z_no hf
            refine va_iald hx hb hK hP _ 0 hN_Xencoded rfl hin d_M_pass_54 ?_
            obtain ⟨hin, hf⟩ := z_no hf
            refine z_iast hx hb hK hP hD hS hN_Xfed rfl hin d_M_pass_55 (fun ws H locs hP hD hS hN_Xfed hfr => ?_)
            have hN_Xfed : zA ws 26 (aXfed, .inl (cI, Xfed_n, .inl (upd Xfed_f_676 X_fedMany_675.toNatClampNeg (Xencoded_f v1_674.toNatClampNeg)))) := hN_Xfed
            have hN_X := (hfr _ (by decide)).trans hN_X
            have hN_Xencoded := (hfr _ (by decide)).trans hN_Xencoded
            have hw := z_fr (by decide) hw hfr
            refine lv_aload_n hx hb d_M_pass_56 rfl (lv_at hl 0 rfl) ?_
            refine lv_dup hx hb d_M_pass_57 rfl ?_
            refine gf_M_163 (v := .int X_fedMany_675) hx hb hts hown hK hP hN_X rfl d_M_pass_58 ?_
            refine lv_iconst (v := 1) hx hb d_M_pass_61 (by decide) ?_
            refine lv_iadd hx hb d_M_pass_62 ?_
            refine pf_M_163 (v := .int (X_fedMany_675 + (1 : Int32))) hx hb hts hown hK hP hD hS hN_X rfl rfl (Nat.le_of_ble_eq_true rfl) d_M_pass_63 (fun ws H locs hP hD hS hN_X hfr => ?_)
            have hN_X : zA ws 21 (aX, .inr (7, [.int (1 : Int32), .int X_side, .ref aXpicture, .ref aXhalf, .int X_many, .ref aXblocks, .int X_found, .int X_encodedBits, .ref aXencoded, .int (X_fedMany_675 + (1 : Int32)), .ref aXfed, .int X_readAt, .int X_why, .int X_tried, .int X_waiting, .ref aXpile, .int X_decoded, .ref aXnews, .ref aXolds, .ref aXhalves, .ref aXds, .ref aXrs, .ref aXbest, .long X_bestError])) := hN_X
            have hN_Xencoded := (hfr _ (by decide)).trans hN_Xencoded
            have hN_Xfed := (hfr _ (by decide)).trans hN_Xfed
            have hw := z_fr (by decide) hw hfr
            refine lv_iinc (v := (v1_674 + 1)) (lv' := [(1, .int (v1_674 + 1)), (0, .ref aX)]) hx hb d_M_pass_66 hl (k := 1) rfl rfl (by decide) rfl (fun ls hl => ?_)
            refine lv_goto (tgt := 26) hx hb d_M_pass_69 (by decide) ?_
            exact ih (v1_674 + 1) (X_fedMany_675 + (1 : Int32)) (upd Xfed_f_676 X_fedMany_675.toNatClampNeg (Xencoded_f v1_674.toNatClampNeg)) _ _ _ ls _ hf (lv_sub hl [1, 0] rfl) hP hD hS hN_X hN_Xencoded hN_Xfed hw kt0
    obtain ⟨q673, hc, hf⟩ := z_b hf
    refine lp677 _ FU (0 : Int32) X_fedMany Xfed_f _ _ _ ls q673 hc (lv_sub hl [1, 0] rfl) hP hD hS hN_X hN_Xencoded hN_Xfed hw (fun ws H locs ls hl hP hD hS hN_X hN_Xencoded hN_Xfed hw => ?_)
    refine lv_aload_n hx hb d_M_pass_72 rfl (lv_at hl 0 rfl) ?_
    refine gf_M_50 (v := .int (1 : Int32)) hx hb hts hown hK hP hN_X rfl d_M_pass_73 ?_
    refine lv_if_le (tgt := 83) hx hb d_M_pass_76 (by decide) (fun hc => ?_) (fun hc => ?_)
    · have hf := z_t hc hf
      refine lv_aload_n hx hb d_M_pass_83 rfl (lv_at hl 0 rfl) ?_
      refine gf_M_163 (v := .int q673.2.1) hx hb hts hown hK hP hN_X rfl d_M_pass_84 ?_
      obtain rfl := Option.some.inj hf
      exact W.iret hx hb hr (fun t ht hW => ⟨⟨_, ws, rfl, ⟨rfl, hN_X, hN_Xfed, hw⟩, by rw [ht]; exact hP, va_K.moved hW.alike hK, hD⟩, hS.F ht⟩) hS.2.2 d_M_pass_87
    · have hf := z_f hc hf
      refine lv_iconst (v := 0) hx hb d_M_pass_79 (by decide) ?_
      refine lv_goto (tgt := 87) hx hb d_M_pass_80 (by decide) ?_
      obtain rfl := Option.some.inj hf
      exact W.iret hx hb hr (fun t ht hW => ⟨⟨_, ws, rfl, ⟨rfl, hN_X, hN_Xfed, hw⟩, by rw [ht]; exact hP, va_K.moved hW.alike hK, hD⟩, hS.F ht⟩) hS.2.2 d_M_pass_87
def f_M_at (x1 : Int32) (x2 : Int32) (X_code : Int32) (X_decoded : Int32) (Xnews_n : Nat) (Xnews_f : Nat → Int32) : Option (Int32 × Int32) := (f_M_in x1.toInt64 (0 : Int64) ((X_decoded - (1 : Int32)).toInt64)).bind (fun q680 => if q680 = 0 then (if (1 : Int32) ≤ 0 then (if ((X_decoded * x2) + x1) < 0 ∨ Xnews_n ≤ ((X_decoded * x2) + x1).toNatClampNeg then none else (some ((Xnews_f ((X_decoded * x2) + x1).toNatClampNeg), (1 : Int32)))) else (some ((0 : Int32), (1 : Int32)))) else ((f_M_in x2.toInt64 (0 : Int64) ((X_decoded - (1 : Int32)).toInt64)).bind (fun q682 => if q682 = 0 then (if (1 : Int32) ≤ 0 then (if ((X_decoded * x2) + x1) < 0 ∨ Xnews_n ≤ ((X_decoded * x2) + x1).toNatClampNeg then none else (some ((Xnews_f ((X_decoded * x2) + x1).toNatClampNeg), (1 : Int32)))) else (some ((0 : Int32), (1 : Int32)))) else (if (0 : Int32) ≤ 0 then (if ((X_decoded * x2) + x1) < 0 ∨ Xnews_n ≤ ((X_decoded * x2) + x1).toNatClampNeg then none else (some ((Xnews_f ((X_decoded * x2) + x1).toNatClampNeg), (0 : Int32)))) else (some ((0 : Int32), (0 : Int32)))))))
set_option maxHeartbeats 4000000 in
set_option maxRecDepth 100000 in
theorem c_M_at (l : Launch) (dC : Nat → ClassId) (dI : Nat → Nat → Nat) (cI cL : ClassId) {ws0 : va_W} (sz : Nat) {aX aXpicture aXhalf aXblocks aXencoded aXfed aXpile aXnews aXolds aXhalves aXds aXrs aXbest : Nat} {X_code X_side X_many X_found X_encodedBits X_fedMany X_readAt X_why X_tried X_waiting X_decoded : Int32} {X_bestError : Int64} {Xnews_n : Nat} {Xnews_f : Nat → Int32} (x1 : Int32) (x2 : Int32) (hN_X : zA ws0 21 (aX, .inr (7, [.int X_code, .int X_side, .ref aXpicture, .ref aXhalf, .int X_many, .ref aXblocks, .int X_found, .int X_encodedBits, .ref aXencoded, .int X_fedMany, .ref aXfed, .int X_readAt, .int X_why, .int X_tried, .int X_waiting, .ref aXpile, .int X_decoded, .ref aXnews, .ref aXolds, .ref aXhalves, .ref aXds, .ref aXrs, .ref aXbest, .long X_bestError]))) (hN_Xnews : zA ws0 28 (aXnews, .inl (cI, Xnews_n, .inl Xnews_f))) (r : Int32 × Int32) (hf : f_M_at x1 x2 X_code X_decoded Xnews_n Xnews_f = some r) : Met l y_M_at w_M_at rm_M_at (va_Pc [.ref aX, .int x1, .int x2] (zM dC dI cI cL ws0 sz)) (va_Qi (fun (v : Int32) (ws' : va_W) => v = r.1 ∧ zA ws' 21 (aX, .inr (7, [.int r.2, .int X_side, .ref aXpicture, .ref aXhalf, .int X_many, .ref aXblocks, .int X_found, .int X_encodedBits, .ref aXencoded, .int X_fedMany, .ref aXfed, .int X_readAt, .int X_why, .int X_tried, .int X_waiting, .ref aXpile, .int X_decoded, .ref aXnews, .ref aXolds, .ref aXhalves, .ref aXds, .ref aXrs, .ref aXbest, .long X_bestError])) ∧ ∀ (j : Nat), j ∉ ([21] : List Nat) → ws'[j]? = ws0[j]?) (zQ dC dI cI cL (va_A ws0 sz)) (va_A ws0 sz)) 0 0 (va_A ws0 sz) := by
  refine Met.ofW (cc := b_M_at) (maxL := 3) (ret := some .int) (by decide) rfl ?_
  intro p e s m args below meth c s₁ B hml hv
  obtain ⟨rfl, hsz, hP, hK, hZ, hD0⟩ := hv
  have hx := B.exec
  have hb := B.bytes
  have hr := B.returns
  have hlocks := B.notSynchronized
  have hts : ∀ w ∈ BIG, w.before ([.ref aX, .int x1, .int x2] : List Value).toArray s = true := fun w h => atoms_spec (ws := w_M_at) B.pre w (List.mem_cons_of_mem _ h)
  have hown : s.vm.findClass "FractalMapsModel" = some m.cls := findClass_of_methodNamed B.named
  subst hsz
  have hD := hD0.self (sz := s.heap.size)
  generalize hAe : va_A ws0 s.heap.size = A at hD ⊢
  have hA : ∀ q : Nat, s.heap.size ≤ q → A q := fun q h => by rw [← hAe]; exact Or.inr h
  have hS : va_S A s.heap s.heap [] := va_S.rf
  have hw : ∀ (j : Nat), j ∉ ([21] : List Nat) → ws0[j]? = ws0[j]? := fun _ _ => rfl
  have hl := lv_entry ([.ref aX, .int x1, .int x2]) (n := 3) (Nat.le_of_ble_eq_true rfl)
  rw [lg_entry_eq]
  generalize (lg_sl ([.ref aX, .int x1, .int x2]) ++ List.replicate (3 - (lg_sl ([.ref aX, .int x1, .int x2])).length) Slot.unset).toArray = ls at hl ⊢
  have hl : lv_has ls 3 [(0, .ref aX), (1, .int x1), (2, .int x2)] := hl
  unfold f_M_at at hf
  refine lv_aload_n hx hb d_M_at_0 rfl (lv_at hl 0 rfl) ?_
  refine lv_iload_n hx hb d_M_at_1 rfl (lv_at hl 1 rfl) ?_
  refine lv_i2l hx hb d_M_at_2 rfl ?_
  refine lv_lconst (v := 0) hx hb d_M_at_3 (by decide) ?_
  refine lv_aload_n hx hb d_M_at_4 rfl (lv_at hl 0 rfl) ?_
  refine gf_M_185 (v := .int X_decoded) hx hb hts hown hK hP hN_X rfl d_M_at_5 ?_
  refine lv_iconst (v := 1) hx hb d_M_at_8 (by decide) ?_
  refine lv_isub hx hb d_M_at_9 ?_
  refine lv_i2l hx hb d_M_at_10 rfl ?_
  obtain ⟨q680, hc, hf⟩ := z_b hf
  refine vp_callSi (z_cr (va_runS (As := [.long x1.toInt64, .long (0 : Int64), .long ((X_decoded - (1 : Int32)).toInt64)]) (rest := [.ref aX]) ⟨hx, hb, hml, hown, hts⟩ (c_M_in l x1.toInt64 (0 : Int64) ((X_decoded - (1 : Int32)).toInt64) q680 hc) (cw_M_55 hts ⟨Nat.le_of_ble_eq_true rfl, Nat.le_of_ble_eq_true rfl⟩) ⟨zb0, zp0⟩ rfl rfl hl.1 rfl (lv_room (Nat.le_of_ble_eq_true rfl)) d_M_at_11 ⟨Nat.zero_le _, Nat.zero_le _⟩)) (fun r681 hv => ?_)
  have hv := hv.symm
  subst hv
  refine lv_if_eq (tgt := 37) hx hb d_M_at_14 (by decide) (fun hc => ?_) (fun hc => ?_)
  · have hf := z_t hc hf
    refine lv_iconst (v := 1) hx hb d_M_at_37 (by decide) ?_
    refine pf_M_50 (v := .int (1 : Int32)) hx hb hts hown hK hP hD hS hN_X rfl rfl (Nat.le_of_ble_eq_true rfl) d_M_at_38 (fun ws H locs hP hD hS hN_X hfr => ?_)
    have hN_X : zA ws 21 (aX, .inr (7, [.int (1 : Int32), .int X_side, .ref aXpicture, .ref aXhalf, .int X_many, .ref aXblocks, .int X_found, .int X_encodedBits, .ref aXencoded, .int X_fedMany, .ref aXfed, .int X_readAt, .int X_why, .int X_tried, .int X_waiting, .ref aXpile, .int X_decoded, .ref aXnews, .ref aXolds, .ref aXhalves, .ref aXds, .ref aXrs, .ref aXbest, .long X_bestError])) := hN_X
    have hN_Xnews := (hfr _ (by decide)).trans hN_Xnews
    have hw := z_fr (by decide) hw hfr
    refine lv_aload_n hx hb d_M_at_41 rfl (lv_at hl 0 rfl) ?_
    refine gf_M_50 (v := .int (1 : Int32)) hx hb hts hown hK hP hN_X rfl d_M_at_42 ?_
    refine lv_if_le (tgt := 52) hx hb d_M_at_45 (by decide) (fun hc => ?_) (fun hc => ?_)
    · have hf := z_t hc hf
      refine lv_aload_n hx hb d_M_at_52 rfl (lv_at hl 0 rfl) ?_
      refine gf_M_28 (v := .ref aXnews) hx hb hts hown hK hP hN_X rfl d_M_at_53 ?_
      refine lv_aload_n hx hb d_M_at_56 rfl (lv_at hl 0 rfl) ?_
      refine gf_M_185 (v := .int X_decoded) hx hb hts hown hK hP hN_X rfl d_M_at_57 ?_
      refine lv_iload_n hx hb d_M_at_60 rfl (lv_at hl 2 rfl) ?_
      refine lv_imul hx hb d_M_at_61 ?_
      refine lv_iload_n hx hb d_M_at_62 rfl (lv_at hl 1 rfl) ?_
      refine lv_iadd hx hb d_M_at_63 ?_
      obtain ⟨hin, hf⟩ := z_no hf
      refine va_iald hx hb hK hP _ 0 hN_Xnews rfl hin d_M_at_64 ?_
      obtain rfl := Option.some.inj hf
      exact W.iret hx hb hr (fun t ht hW => ⟨⟨_, ws, rfl, ⟨rfl, hN_X, hw⟩, by rw [ht]; exact hP, va_K.moved hW.alike hK, hD⟩, hS.F ht⟩) hS.2.2 d_M_at_65
    · have hf := z_f hc hf
      refine lv_iconst (v := 0) hx hb d_M_at_48 (by decide) ?_
      refine lv_goto (tgt := 65) hx hb d_M_at_49 (by decide) ?_
      obtain rfl := Option.some.inj hf
      exact W.iret hx hb hr (fun t ht hW => ⟨⟨_, ws, rfl, ⟨rfl, hN_X, hw⟩, by rw [ht]; exact hP, va_K.moved hW.alike hK, hD⟩, hS.F ht⟩) hS.2.2 d_M_at_65
  · have hf := z_f hc hf
    refine lv_iload_n hx hb d_M_at_17 rfl (lv_at hl 2 rfl) ?_
    refine lv_i2l hx hb d_M_at_18 rfl ?_
    refine lv_lconst (v := 0) hx hb d_M_at_19 (by decide) ?_
    refine lv_aload_n hx hb d_M_at_20 rfl (lv_at hl 0 rfl) ?_
    refine gf_M_185 (v := .int X_decoded) hx hb hts hown hK hP hN_X rfl d_M_at_21 ?_
    refine lv_iconst (v := 1) hx hb d_M_at_24 (by decide) ?_
    refine lv_isub hx hb d_M_at_25 ?_
    refine lv_i2l hx hb d_M_at_26 rfl ?_
    obtain ⟨q682, hc, hf⟩ := z_b hf
    refine vp_callSi (z_cr (va_runS (As := [.long x2.toInt64, .long (0 : Int64), .long ((X_decoded - (1 : Int32)).toInt64)]) (rest := [.ref aX]) ⟨hx, hb, hml, hown, hts⟩ (c_M_in l x2.toInt64 (0 : Int64) ((X_decoded - (1 : Int32)).toInt64) q682 hc) (cw_M_55 hts ⟨Nat.le_of_ble_eq_true rfl, Nat.le_of_ble_eq_true rfl⟩) ⟨zb0, zp0⟩ rfl rfl hl.1 rfl (lv_room (Nat.le_of_ble_eq_true rfl)) d_M_at_27 ⟨Nat.zero_le _, Nat.zero_le _⟩)) (fun r683 hv => ?_)
    have hv := hv.symm
    subst hv
    refine lv_if_eq (tgt := 37) hx hb d_M_at_30 (by decide) (fun hc => ?_) (fun hc => ?_)
    · have hf := z_t hc hf
      refine lv_iconst (v := 1) hx hb d_M_at_37 (by decide) ?_
      refine pf_M_50 (v := .int (1 : Int32)) hx hb hts hown hK hP hD hS hN_X rfl rfl (Nat.le_of_ble_eq_true rfl) d_M_at_38 (fun ws H locs hP hD hS hN_X hfr => ?_)
      have hN_X : zA ws 21 (aX, .inr (7, [.int (1 : Int32), .int X_side, .ref aXpicture, .ref aXhalf, .int X_many, .ref aXblocks, .int X_found, .int X_encodedBits, .ref aXencoded, .int X_fedMany, .ref aXfed, .int X_readAt, .int X_why, .int X_tried, .int X_waiting, .ref aXpile, .int X_decoded, .ref aXnews, .ref aXolds, .ref aXhalves, .ref aXds, .ref aXrs, .ref aXbest, .long X_bestError])) := hN_X
      have hN_Xnews := (hfr _ (by decide)).trans hN_Xnews
      have hw := z_fr (by decide) hw hfr
      refine lv_aload_n hx hb d_M_at_41 rfl (lv_at hl 0 rfl) ?_
      refine gf_M_50 (v := .int (1 : Int32)) hx hb hts hown hK hP hN_X rfl d_M_at_42 ?_
      refine lv_if_le (tgt := 52) hx hb d_M_at_45 (by decide) (fun hc => ?_) (fun hc => ?_)
      · have hf := z_t hc hf
        refine lv_aload_n hx hb d_M_at_52 rfl (lv_at hl 0 rfl) ?_
        refine gf_M_28 (v := .ref aXnews) hx hb hts hown hK hP hN_X rfl d_M_at_53 ?_
        refine lv_aload_n hx hb d_M_at_56 rfl (lv_at hl 0 rfl) ?_
        refine gf_M_185 (v := .int X_decoded) hx hb hts hown hK hP hN_X rfl d_M_at_57 ?_
        refine lv_iload_n hx hb d_M_at_60 rfl (lv_at hl 2 rfl) ?_
        refine lv_imul hx hb d_M_at_61 ?_
        refine lv_iload_n hx hb d_M_at_62 rfl (lv_at hl 1 rfl) ?_
        refine lv_iadd hx hb d_M_at_63 ?_
        obtain ⟨hin, hf⟩ := z_no hf
        refine va_iald hx hb hK hP _ 0 hN_Xnews rfl hin d_M_at_64 ?_
        obtain rfl := Option.some.inj hf
        exact W.iret hx hb hr (fun t ht hW => ⟨⟨_, ws, rfl, ⟨rfl, hN_X, hw⟩, by rw [ht]; exact hP, va_K.moved hW.alike hK, hD⟩, hS.F ht⟩) hS.2.2 d_M_at_65
      · have hf := z_f hc hf
        refine lv_iconst (v := 0) hx hb d_M_at_48 (by decide) ?_
        refine lv_goto (tgt := 65) hx hb d_M_at_49 (by decide) ?_
        obtain rfl := Option.some.inj hf
        exact W.iret hx hb hr (fun t ht hW => ⟨⟨_, ws, rfl, ⟨rfl, hN_X, hw⟩, by rw [ht]; exact hP, va_K.moved hW.alike hK, hD⟩, hS.F ht⟩) hS.2.2 d_M_at_65
    · have hf := z_f hc hf
      refine lv_iconst (v := 0) hx hb d_M_at_33 (by decide) ?_
      refine lv_goto (tgt := 38) hx hb d_M_at_34 (by decide) ?_
      refine pf_M_50 (v := .int (0 : Int32)) hx hb hts hown hK hP hD hS hN_X rfl rfl (Nat.le_of_ble_eq_true rfl) d_M_at_38 (fun ws H locs hP hD hS hN_X hfr => ?_)
      have hN_X : zA ws 21 (aX, .inr (7, [.int (0 : Int32), .int X_side, .ref aXpicture, .ref aXhalf, .int X_many, .ref aXblocks, .int X_found, .int X_encodedBits, .ref aXencoded, .int X_fedMany, .ref aXfed, .int X_readAt, .int X_why, .int X_tried, .int X_waiting, .ref aXpile, .int X_decoded, .ref aXnews, .ref aXolds, .ref aXhalves, .ref aXds, .ref aXrs, .ref aXbest, .long X_bestError])) := hN_X
      have hN_Xnews := (hfr _ (by decide)).trans hN_Xnews
      have hw := z_fr (by decide) hw hfr
      refine lv_aload_n hx hb d_M_at_41 rfl (lv_at hl 0 rfl) ?_
      refine gf_M_50 (v := .int (0 : Int32)) hx hb hts hown hK hP hN_X rfl d_M_at_42 ?_
      refine lv_if_le (tgt := 52) hx hb d_M_at_45 (by decide) (fun hc => ?_) (fun hc => ?_)
      · have hf := z_t hc hf
        refine lv_aload_n hx hb d_M_at_52 rfl (lv_at hl 0 rfl) ?_
        refine gf_M_28 (v := .ref aXnews) hx hb hts hown hK hP hN_X rfl d_M_at_53 ?_
        refine lv_aload_n hx hb d_M_at_56 rfl (lv_at hl 0 rfl) ?_
        refine gf_M_185 (v := .int X_decoded) hx hb hts hown hK hP hN_X rfl d_M_at_57 ?_
        refine lv_iload_n hx hb d_M_at_60 rfl (lv_at hl 2 rfl) ?_
        refine lv_imul hx hb d_M_at_61 ?_
        refine lv_iload_n hx hb d_M_at_62 rfl (lv_at hl 1 rfl) ?_
        refine lv_iadd hx hb d_M_at_63 ?_
        obtain ⟨hin, hf⟩ := z_no hf
        refine va_iald hx hb hK hP _ 0 hN_Xnews rfl hin d_M_at_64 ?_
        obtain rfl := Option.some.inj hf
        exact W.iret hx hb hr (fun t ht hW => ⟨⟨_, ws, rfl, ⟨rfl, hN_X, hw⟩, by rw [ht]; exact hP, va_K.moved hW.alike hK, hD⟩, hS.F ht⟩) hS.2.2 d_M_at_65
      · have hf := z_f hc hf
        refine lv_iconst (v := 0) hx hb d_M_at_48 (by decide) ?_
        refine lv_goto (tgt := 65) hx hb d_M_at_49 (by decide) ?_
        obtain rfl := Option.some.inj hf
        exact W.iret hx hb hr (fun t ht hW => ⟨⟨_, ws, rfl, ⟨rfl, hN_X, hw⟩, by rw [ht]; exact hP, va_K.moved hW.alike hK, hD⟩, hS.F ht⟩) hS.2.2 d_M_at_65
