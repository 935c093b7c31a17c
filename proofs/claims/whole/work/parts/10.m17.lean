def f_M_missed_24 (X_code : Int32) (X_side : Int32) (Xpicture_n : Nat) (Xpicture_f : Nat → Int32) (Xnews_n : Nat) (Xnews_f : Nat → Int32) : Nat → Int64 → Int32 → Option (Int64 × Int32)
  | 0, _, _ => none
  | n + 1, v1, v3 => if (X_side * X_side) ≤ v3 then (some (v1, v3)) else (if X_code = 0 then (if v3 < 0 ∨ Xpicture_n ≤ v3.toNatClampNeg then none else (if v3 < 0 ∨ Xnews_n ≤ v3.toNatClampNeg then none else (f_M_missed_24 X_code X_side Xpicture_n Xpicture_f Xnews_n Xnews_f n (v1 + (((Xpicture_f v3.toNatClampNeg) - (Xnews_f v3.toNatClampNeg)).toInt64 * ((Xpicture_f v3.toNatClampNeg) - (Xnews_f v3.toNatClampNeg)).toInt64)) (v3 + 1)))) else (some (v1, v3)))
def f_M_missed (X_code : Int32) (X_side : Int32) (X_decoded : Int32) (Xpicture_n : Nat) (Xpicture_f : Nat → Int32) (Xnews_n : Nat) (Xnews_f : Nat → Int32) : Option (Int64 × Int32) := if X_decoded = X_side then ((f_M_missed_24 (0 : Int32) X_side Xpicture_n Xpicture_f Xnews_n Xnews_f FU (0 : Int64) (0 : Int32)).bind (fun q688 => some (q688.1, (0 : Int32)))) else ((f_M_missed_24 (1 : Int32) X_side Xpicture_n Xpicture_f Xnews_n Xnews_f FU (0 : Int64) (0 : Int32)).bind (fun q684 => some (q684.1, (1 : Int32))))
set_option maxHeartbeats 4000000 in
set_option maxRecDepth 100000 in
theorem c_M_missed (l : Launch) (dC : Nat → ClassId) (dI : Nat → Nat → Nat) (cI cL : ClassId) {ws0 : va_W} (sz : Nat) {aX aXpicture aXhalf aXblocks aXencoded aXfed aXpile aXnews aXolds aXhalves aXds aXrs aXbest : Nat} {X_code X_side X_many X_found X_encodedBits X_fedMany X_readAt X_why X_tried X_waiting X_decoded : Int32} {X_bestError : Int64} {Xpicture_n Xnews_n : Nat} {Xpicture_f Xnews_f : Nat → Int32} (hN_X : zA ws0 21 (aX, .inr (7, [.int X_code, .int X_side, .ref aXpicture, .ref aXhalf, .int X_many, .ref aXblocks, .int X_found, .int X_encodedBits, .ref aXencoded, .int X_fedMany, .ref aXfed, .int X_readAt, .int X_why, .int X_tried, .int X_waiting, .ref aXpile, .int X_decoded, .ref aXnews, .ref aXolds, .ref aXhalves, .ref aXds, .ref aXrs, .ref aXbest, .long X_bestError]))) (hN_Xpicture : zA ws0 22 (aXpicture, .inl (cI, Xpicture_n, .inl Xpicture_f))) (hN_Xnews : zA ws0 28 (aXnews, .inl (cI, Xnews_n, .inl Xnews_f))) (r : Int64 × Int32) (hf : f_M_missed X_code X_side X_decoded Xpicture_n Xpicture_f Xnews_n Xnews_f = some r) : Met l y_M_missed w_M_missed rm_M_missed (va_Pc [.ref aX] (zM dC dI cI cL ws0 sz)) (va_Ql (fun (v : Int64) (ws' : va_W) => v = r.1 ∧ zA ws' 21 (aX, .inr (7, [.int r.2, .int X_side, .ref aXpicture, .ref aXhalf, .int X_many, .ref aXblocks, .int X_found, .int X_encodedBits, .ref aXencoded, .int X_fedMany, .ref aXfed, .int X_readAt, .int X_why, .int X_tried, .int X_waiting, .ref aXpile, .int X_decoded, .ref aXnews, .ref aXolds, .ref aXhalves, .ref aXds, .ref aXrs, .ref aXbest, .long X_bestError])) ∧ ∀ (j : Nat), j ∉ ([21] : List Nat) → ws'[j]? = ws0[j]?) (zQ dC dI cI cL (va_A ws0 sz)) (va_A ws0 sz)) 0 0 (va_A ws0 sz) := by
  refine Met.ofW (cc := b_M_missed) (maxL := 6) (ret := some .long) (by decide) rfl ?_
  intro p e s m args below meth c s₁ B hml hv
  obtain ⟨rfl, hsz, hP, hK, hZ, hD0⟩ := hv
  have hx := B.exec
  have hb := B.bytes
  have hr := B.returns
  have hlocks := B.notSynchronized
  have hts : ∀ w ∈ BIG, w.before ([.ref aX] : List Value).toArray s = true := fun w h => atoms_spec (ws := w_M_missed) B.pre w (List.mem_cons_of_mem _ h)
  have hown : s.vm.findClass "FractalMapsModel" = some m.cls := findClass_of_methodNamed B.named
  subst hsz
  have hD := hD0.self (sz := s.heap.size)
  generalize hAe : va_A ws0 s.heap.size = A at hD ⊢
  have hA : ∀ q : Nat, s.heap.size ≤ q → A q := fun q h => by rw [← hAe]; exact Or.inr h
  have hS : va_S A s.heap s.heap [] := va_S.rf
  have hw : ∀ (j : Nat), j ∉ ([21] : List Nat) → ws0[j]? = ws0[j]? := fun _ _ => rfl
  have hl := lv_entry ([.ref aX]) (n := 6) (Nat.le_of_ble_eq_true rfl)
  rw [lg_entry_eq]
  generalize (lg_sl ([.ref aX]) ++ List.replicate (6 - (lg_sl ([.ref aX])).length) Slot.unset).toArray = ls at hl ⊢
  have hl : lv_has ls 6 [(0, .ref aX)] := hl
  unfold f_M_missed at hf
  refine lv_aload_n hx hb d_M_missed_0 rfl (lv_at hl 0 rfl) ?_
  refine lv_aload_n hx hb d_M_missed_1 rfl (lv_at hl 0 rfl) ?_
  refine gf_M_185 (v := .int X_decoded) hx hb hts hown hK hP hN_X rfl d_M_missed_2 ?_
  refine lv_aload_n hx hb d_M_missed_5 rfl (lv_at hl 0 rfl) ?_
  refine gf_M_46 (v := .int X_side) hx hb hts hown hK hP hN_X rfl d_M_missed_6 ?_
  refine lv_icmp_ne (tgt := 16) hx hb d_M_missed_9 (by decide) (fun hc => ?_) (fun hc => ?_)
  · have hf := z_f hc hf
    refine lv_iconst (v := 1) hx hb d_M_missed_16 (by decide) ?_
    refine pf_M_50 (v := .int (1 : Int32)) hx hb hts hown hK hP hD hS hN_X rfl rfl (Nat.le_of_ble_eq_true rfl) d_M_missed_17 (fun ws H locs hP hD hS hN_X hfr => ?_)
    have hN_X : zA ws 21 (aX, .inr (7, [.int (1 : Int32), .int X_side, .ref aXpicture, .ref aXhalf, .int X_many, .ref aXblocks, .int X_found, .int X_encodedBits, .ref aXencoded, .int X_fedMany, .ref aXfed, .int X_readAt, .int X_why, .int X_tried, .int X_waiting, .ref aXpile, .int X_decoded, .ref aXnews, .ref aXolds, .ref aXhalves, .ref aXds, .ref aXrs, .ref aXbest, .long X_bestError])) := hN_X
    have hN_Xpicture := (hfr _ (by decide)).trans hN_Xpicture
    have hN_Xnews := (hfr _ (by decide)).trans hN_Xnews
    have hw := z_fr (by decide) hw hfr
    refine lv_lconst (v := 0) hx hb d_M_missed_20 (by decide) ?_
    refine lv_lstore_n (lv' := [(1, .long (0 : Int64)), (0, .ref aX)]) hx hb d_M_missed_21 rfl hl (by decide) rfl (fun ls hl => ?_)
    refine lv_iconst (v := 0) hx hb d_M_missed_22 (by decide) ?_
    refine lv_istore_n (lv' := [(3, .int (0 : Int32)), (1, .long (0 : Int64)), (0, .ref aX)]) hx hb d_M_missed_23 rfl hl (by decide) rfl (fun ls hl => ?_)
    have lp687 : ∀ (Qx : State → Prop) (n : Nat) (v1_685 : Int64) (v3_686 : Int32) (ls : Array Slot) (q : Int64 × Int32) (hf : f_M_missed_24 (1 : Int32) X_side Xpicture_n Xpicture_f Xnews_n Xnews_f n v1_685 v3_686 = some q) (hl : lv_has ls 6 [(0, .ref aX), (1, .long v1_685), (3, .int v3_686)]) (kt0 : ∀ (ls : Array Slot), lv_has ls 6 [(0, .ref aX), (1, .long q.1), (3, .int q.2)] → W p l e (headSpec w_M_missed rm_M_missed).room s m ([.ref aX] : List Value).toArray below meth c H locs 0 0 Qx (F0 m 74 ls [])), W p l e (headSpec w_M_missed rm_M_missed).room s m ([.ref aX] : List Value).toArray below meth c H locs 0 0 Qx (F0 m 24 ls []) := by
      intro Qx n
      induction n with
      | zero => intro v1_685 v3_686 ls q hf; cases hf
      | succ n ih =>
        intro v1_685 v3_686 ls q hf hl kt0
        rw [f_M_missed_24] at hf
        refine lv_iload_n hx hb d_M_missed_24 rfl (lv_at hl 2 rfl) ?_
        refine lv_aload_n hx hb d_M_missed_25 rfl (lv_at hl 0 rfl) ?_
        refine gf_M_46 (v := .int X_side) hx hb hts hown hK hP hN_X rfl d_M_missed_26 ?_
        refine lv_aload_n hx hb d_M_missed_29 rfl (lv_at hl 0 rfl) ?_
        refine gf_M_46 (v := .int X_side) hx hb hts hown hK hP hN_X rfl d_M_missed_30 ?_
        refine lv_imul hx hb d_M_missed_33 ?_
        refine lv_icmp_ge (tgt := 74) hx hb d_M_missed_34 (by decide) (fun hc => ?_) (fun hc => ?_)
        · have hf := z_t hc hf
          obtain rfl := Option.some.inj hf
          exact kt0 ls (lv_sub hl [0, 1, 2] rfl)
        · have hf := z_f hc hf
          refine lv_aload_n hx hb d_M_missed_37 rfl (lv_at hl 0 rfl) ?_
          refine gf_M_50 (v := .int (1 : Int32)) hx hb hts hown hK hP hN_X rfl d_M_missed_38 ?_
          refine lv_if_ne (tgt := 74) hx hb d_M_missed_41 (by decide) (fun hc => ?_) (fun hc => ?_)
          · have hf := z_f hc hf
            obtain rfl := Option.some.inj hf
            exact kt0 ls (lv_sub hl [0, 1, 2] rfl)
          · have hf := z_t hc hf
            refine lv_aload_n hx hb d_M_missed_44 rfl (lv_at hl 0 rfl) ?_
            refine gf_M_7 (v := .ref aXpicture) hx hb hts hown hK hP hN_X rfl d_M_missed_45 ?_
            refine lv_iload_n hx hb d_M_missed_48 rfl (lv_at hl 2 rfl) ?_
            obtain ⟨hin, hf⟩ := z_no hf
            refine va_iald hx hb hK hP _ 0 hN_Xpicture rfl hin d_M_missed_49 ?_
            refine lv_aload_n hx hb d_M_missed_50 rfl (lv_at hl 0 rfl) ?_
            refine gf_M_28 (v := .ref aXnews) hx hb hts hown hK hP hN_X rfl d_M_missed_51 ?_
            refine lv_iload_n hx hb d_M_missed_54 rfl (lv_at hl 2 rfl) ?_
            obtain ⟨hin, hf⟩ := z_no hf
            refine va_iald hx hb hK hP _ 0 hN_Xnews rfl hin d_M_missed_55 ?_
            refine lv_isub hx hb d_M_missed_56 ?_
            refine lv_i2l hx hb d_M_missed_57 rfl ?_
            refine lv_lstore (lv' := [(4, .long (((Xpicture_f v3_686.toNatClampNeg) - (Xnews_f v3_686.toNatClampNeg)).toInt64)), (0, .ref aX), (1, .long v1_685), (3, .int v3_686)]) hx hb d_M_missed_58 hl (by decide) rfl (fun ls hl => ?_)
            refine lv_lload_n hx hb d_M_missed_60 rfl (lv_at hl 2 rfl) ?_
            refine lv_lload hx hb d_M_missed_61 (lv_at hl 0 rfl) ?_
            refine lv_lload hx hb d_M_missed_63 (lv_at hl 0 rfl) ?_
            refine lv_lmul hx hb d_M_missed_65 ?_
            refine lv_ladd hx hb d_M_missed_66 ?_
            refine lv_lstore_n (lv' := [(1, .long (v1_685 + (((Xpicture_f v3_686.toNatClampNeg) - (Xnews_f v3_686.toNatClampNeg)).toInt64 * ((Xpicture_f v3_686.toNatClampNeg) - (Xnews_f v3_686.toNatClampNeg)).toInt64))), (4, .long (((Xpicture_f v3_686.toNatClampNeg) - (Xnews_f v3_686.toNatClampNeg)).toInt64)), (0, .ref aX), (3, .int v3_686)]) hx hb d_M_missed_67 rfl hl (by decide) rfl (fun ls hl => ?_)
            refine lv_iinc (v := (v3_686 + 1)) (lv' := [(3, .int (v3_686 + 1)), (1, .long (v1_685 + (((Xpicture_f v3_686.toNatClampNeg) - (Xnews_f v3_686.toNatClampNeg)).toInt64 * ((Xpicture_f v3_686.toNatClampNeg) - (Xnews_f v3_686.toNatClampNeg)).toInt64))), (4, .long (((Xpicture_f v3_686.toNatClampNeg) - (Xnews_f v3_686.toNatClampNeg)).toInt64)), (0, .ref aX)]) hx hb d_M_missed_68 hl (k := 3) rfl rfl (by decide) rfl (fun ls hl => ?_)
            refine lv_goto (tgt := 24) hx hb d_M_missed_71 (by decide) ?_
            exact ih (v1_685 + (((Xpicture_f v3_686.toNatClampNeg) - (Xnews_f v3_686.toNatClampNeg)).toInt64 * ((Xpicture_f v3_686.toNatClampNeg) - (Xnews_f v3_686.toNatClampNeg)).toInt64)) (v3_686 + 1) ls _ hf (lv_sub hl [3, 1, 0] rfl) kt0
    obtain ⟨q684, hc, hf⟩ := z_b hf
    refine lp687 _ FU (0 : Int64) (0 : Int32) ls q684 hc (lv_sub hl [2, 1, 0] rfl) (fun ls hl => ?_)
    refine lv_lload_n hx hb d_M_missed_74 rfl (lv_at hl 1 rfl) ?_
    obtain rfl := Option.some.inj hf
    exact W.lret hx hb hr (fun t ht hW => ⟨⟨_, ws, rfl, ⟨rfl, hN_X, hw⟩, by rw [ht]; exact hP, va_K.moved hW.alike hK, hD⟩, hS.F ht⟩) hS.2.2 d_M_missed_75
  · have hf := z_t hc hf
    refine lv_iconst (v := 0) hx hb d_M_missed_12 (by decide) ?_
    refine lv_goto (tgt := 17) hx hb d_M_missed_13 (by decide) ?_
    refine pf_M_50 (v := .int (0 : Int32)) hx hb hts hown hK hP hD hS hN_X rfl rfl (Nat.le_of_ble_eq_true rfl) d_M_missed_17 (fun ws H locs hP hD hS hN_X hfr => ?_)
    have hN_X : zA ws 21 (aX, .inr (7, [.int (0 : Int32), .int X_side, .ref aXpicture, .ref aXhalf, .int X_many, .ref aXblocks, .int X_found, .int X_encodedBits, .ref aXencoded, .int X_fedMany, .ref aXfed, .int X_readAt, .int X_why, .int X_tried, .int X_waiting, .ref aXpile, .int X_decoded, .ref aXnews, .ref aXolds, .ref aXhalves, .ref aXds, .ref aXrs, .ref aXbest, .long X_bestError])) := hN_X
    have hN_Xpicture := (hfr _ (by decide)).trans hN_Xpicture
    have hN_Xnews := (hfr _ (by decide)).trans hN_Xnews
    have hw := z_fr (by decide) hw hfr
    refine lv_lconst (v := 0) hx hb d_M_missed_20 (by decide) ?_
    refine lv_lstore_n (lv' := [(1, .long (0 : Int64)), (0, .ref aX)]) hx hb d_M_missed_21 rfl hl (by decide) rfl (fun ls hl => ?_)
    refine lv_iconst (v := 0) hx hb d_M_missed_22 (by decide) ?_
    refine lv_istore_n (lv' := [(3, .int (0 : Int32)), (1, .long (0 : Int64)), (0, .ref aX)]) hx hb d_M_missed_23 rfl hl (by decide) rfl (fun ls hl => ?_)
    have lp691 : ∀ (Qx : State → Prop) (n : Nat) (v1_689 : Int64) (v3_690 : Int32) (ls : Array Slot) (q : Int64 × Int32) (hf : f_M_missed_24 (0 : Int32) X_side Xpicture_n Xpicture_f Xnews_n Xnews_f n v1_689 v3_690 = some q) (hl : lv_has ls 6 [(0, .ref aX), (1, .long v1_689), (3, .int v3_690)]) (kt0 : ∀ (ls : Array Slot), lv_has ls 6 [(0, .ref aX), (1, .long q.1), (3, .int q.2)] → W p l e (headSpec w_M_missed rm_M_missed).room s m ([.ref aX] : List Value).toArray below meth c H locs 0 0 Qx (F0 m 74 ls [])), W p l e (headSpec w_M_missed rm_M_missed).room s m ([.ref aX] : List Value).toArray below meth c H locs 0 0 Qx (F0 m 24 ls []) := by
      intro Qx n
      induction n with
      | zero => intro v1_689 v3_690 ls q hf; cases hf
      | succ n ih =>
        intro v1_689 v3_690 ls q hf hl kt0
        rw [f_M_missed_24] at hf
        refine lv_iload_n hx hb d_M_missed_24 rfl (lv_at hl 2 rfl) ?_
        refine lv_aload_n hx hb d_M_missed_25 rfl (lv_at hl 0 rfl) ?_
        refine gf_M_46 (v := .int X_side) hx hb hts hown hK hP hN_X rfl d_M_missed_26 ?_
        refine lv_aload_n hx hb d_M_missed_29 rfl (lv_at hl 0 rfl) ?_
        refine gf_M_46 (v := .int X_side) hx hb hts hown hK hP hN_X rfl d_M_missed_30 ?_
        refine lv_imul hx hb d_M_missed_33 ?_
        refine lv_icmp_ge (tgt := 74) hx hb d_M_missed_34 (by decide) (fun hc => ?_) (fun hc => ?_)
        · have hf := z_t hc hf
          obtain rfl := Option.some.inj hf
          exact kt0 ls (lv_sub hl [0, 1, 2] rfl)
        · have hf := z_f hc hf
          refine lv_aload_n hx hb d_M_missed_37 rfl (lv_at hl 0 rfl) ?_
          refine gf_M_50 (v := .int (0 : Int32)) hx hb hts hown hK hP hN_X rfl d_M_missed_38 ?_
          refine lv_if_ne (tgt := 74) hx hb d_M_missed_41 (by decide) (fun hc => ?_) (fun hc => ?_)
          · have hf := z_f hc hf
            obtain rfl := Option.some.inj hf
            exact kt0 ls (lv_sub hl [0, 1, 2] rfl)
          · have hf := z_t hc hf
            refine lv_aload_n hx hb d_M_missed_44 rfl (lv_at hl 0 rfl) ?_
            refine gf_M_7 (v := .ref aXpicture) hx hb hts hown hK hP hN_X rfl d_M_missed_45 ?_
            refine lv_iload_n hx hb d_M_missed_48 rfl (lv_at hl 2 rfl) ?_
            obtain ⟨hin, hf⟩ := z_no hf
            refine va_iald hx hb hK hP _ 0 hN_Xpicture rfl hin d_M_missed_49 ?_
            refine lv_aload_n hx hb d_M_missed_50 rfl (lv_at hl 0 rfl) ?_
            refine gf_M_28 (v := .ref aXnews) hx hb hts hown hK hP hN_X rfl d_M_missed_51 ?_
            refine lv_iload_n hx hb d_M_missed_54 rfl (lv_at hl 2 rfl) ?_
            obtain ⟨hin, hf⟩ := z_no hf
            refine va_iald hx hb hK hP _ 0 hN_Xnews rfl hin d_M_missed_55 ?_
            refine lv_isub hx hb d_M_missed_56 ?_
            refine lv_i2l hx hb d_M_missed_57 rfl ?_
            refine lv_lstore (lv' := [(4, .long (((Xpicture_f v3_690.toNatClampNeg) - (Xnews_f v3_690.toNatClampNeg)).toInt64)), (0, .ref aX), (1, .long v1_689), (3, .int v3_690)]) hx hb d_M_missed_58 hl (by decide) rfl (fun ls hl => ?_)
            refine lv_lload_n hx hb d_M_missed_60 rfl (lv_at hl 2 rfl) ?_
            refine lv_lload hx hb d_M_missed_61 (lv_at hl 0 rfl) ?_
            refine lv_lload hx hb d_M_missed_63 (lv_at hl 0 rfl) ?_
            refine lv_lmul hx hb d_M_missed_65 ?_
            refine lv_ladd hx hb d_M_missed_66 ?_
            refine lv_lstore_n (lv' := [(1, .long (v1_689 + (((Xpicture_f v3_690.toNatClampNeg) - (Xnews_f v3_690.toNatClampNeg)).toInt64 * ((Xpicture_f v3_690.toNatClampNeg) - (Xnews_f v3_690.toNatClampNeg)).toInt64))), (4, .long (((Xpicture_f v3_690.toNatClampNeg) - (Xnews_f v3_690.toNatClampNeg)).toInt64)), (0, .ref aX), (3, .int v3_690)]) hx hb d_M_missed_67 rfl hl (by decide) rfl (fun ls hl => ?_)
            refine lv_iinc (v := (v3_690 + 1)) (lv' := [(3, .int (v3_690 + 1)), (1, .long (v1_689 + (((Xpicture_f v3_690.toNatClampNeg) - (Xnews_f v3_690.toNatClampNeg)).toInt64 * ((Xpicture_f v3_690.toNatClampNeg) - (Xnews_f v3_690.toNatClampNeg)).toInt64))), (4, .long (((Xpicture_f v3_690.toNatClampNeg) - (Xnews_f v3_690.toNatClampNeg)).toInt64)), (0, .ref aX)]) hx hb d_M_missed_68 hl (k := 3) rfl rfl (by decide) rfl (fun ls hl => ?_)
            refine lv_goto (tgt := 24) hx hb d_M_missed_71 (by decide) ?_
            exact ih (v1_689 + (((Xpicture_f v3_690.toNatClampNeg) - (Xnews_f v3_690.toNatClampNeg)).toInt64 * ((Xpicture_f v3_690.toNatClampNeg) - (Xnews_f v3_690.toNatClampNeg)).toInt64)) (v3_690 + 1) ls _ hf (lv_sub hl [3, 1, 0] rfl) kt0
    obtain ⟨q688, hc, hf⟩ := z_b hf
    refine lp691 _ FU (0 : Int64) (0 : Int32) ls q688 hc (lv_sub hl [2, 1, 0] rfl) (fun ls hl => ?_)
    refine lv_lload_n hx hb d_M_missed_74 rfl (lv_at hl 1 rfl) ?_
    obtain rfl := Option.some.inj hf
    exact W.lret hx hb hr (fun t ht hW => ⟨⟨_, ws, rfl, ⟨rfl, hN_X, hw⟩, by rw [ht]; exact hP, va_K.moved hW.alike hK, hD⟩, hS.F ht⟩) hS.2.2 d_M_missed_75
def f_M_isSize (x1 : Int32) : Option (Int32) := if x1 = (2 : Int32) then (some (1 : Int32)) else (if x1 = (4 : Int32) then (some (1 : Int32)) else (if x1 = (8 : Int32) then (some (1 : Int32)) else (if x1 = (16 : Int32) then (some (1 : Int32)) else (some (0 : Int32)))))
set_option maxHeartbeats 4000000 in
set_option maxRecDepth 100000 in
theorem c_M_isSize (l : Launch) (x1 : Int32) (r : Int32) (hf : f_M_isSize x1 = some r) : Met l y_M_isSize w_M_isSize rm_M_isSize (va_Pc [.int x1] (fun _ => True)) (vp_Si (fun v => v = r)) 0 0 (fun _ => False) := by
  refine Met.ofW (cc := b_M_isSize) (maxL := 1) (ret := some .boolean) (by decide) rfl ?_
  intro p e s m args below meth c s₁ B hml hv
  obtain ⟨rfl, -⟩ := hv
  have hx := B.exec
  have hb := B.bytes
  have hr := B.returns
  have hlocks := B.notSynchronized
  have hts : ∀ w ∈ BIG, w.before ([.int x1] : List Value).toArray s = true := fun w h => atoms_spec (ws := w_M_isSize) B.pre w (List.mem_cons_of_mem _ h)
  have hown : s.vm.findClass "FractalMapsModel" = some m.cls := findClass_of_methodNamed B.named
  have hl := lv_entry ([.int x1]) (n := 1) (Nat.le_of_ble_eq_true rfl)
  rw [lg_entry_eq]
  generalize (lg_sl ([.int x1]) ++ List.replicate (1 - (lg_sl ([.int x1])).length) Slot.unset).toArray = ls at hl ⊢
  have hl : lv_has ls 1 [(0, .int x1)] := hl
  unfold f_M_isSize at hf
  refine lv_iload_n hx hb d_M_isSize_0 rfl (lv_at hl 0 rfl) ?_
  refine lv_iconst (v := 2) hx hb d_M_isSize_1 (by decide) ?_
  refine lv_icmp_eq (tgt := 22) hx hb d_M_isSize_2 (by decide) (fun hc => ?_) (fun hc => ?_)
  · have hf := z_t hc hf
    refine lv_iconst (v := 1) hx hb d_M_isSize_22 (by decide) ?_
    refine lv_goto (tgt := 27) hx hb d_M_isSize_23 (by decide) ?_
    obtain rfl := Option.some.inj hf
    exact W.zret (ty := .boolean) hx hb hr (by decide) (fun t ht hW => ⟨_, rfl, rfl, ht⟩) (fun q h => by cases h) d_M_isSize_27
  · have hf := z_f hc hf
    refine lv_iload_n hx hb d_M_isSize_5 rfl (lv_at hl 0 rfl) ?_
    refine lv_iconst (v := 4) hx hb d_M_isSize_6 (by decide) ?_
    refine lv_icmp_eq (tgt := 22) hx hb d_M_isSize_7 (by decide) (fun hc => ?_) (fun hc => ?_)
    · have hf := z_t hc hf
      refine lv_iconst (v := 1) hx hb d_M_isSize_22 (by decide) ?_
      refine lv_goto (tgt := 27) hx hb d_M_isSize_23 (by decide) ?_
      obtain rfl := Option.some.inj hf
      exact W.zret (ty := .boolean) hx hb hr (by decide) (fun t ht hW => ⟨_, rfl, rfl, ht⟩) (fun q h => by cases h) d_M_isSize_27
    · have hf := z_f hc hf
      refine lv_iload_n hx hb d_M_isSize_10 rfl (lv_at hl 0 rfl) ?_
      refine lv_bipush (v := 8) hx hb d_M_isSize_11 (by decide) ?_
      refine lv_icmp_eq (tgt := 22) hx hb d_M_isSize_13 (by decide) (fun hc => ?_) (fun hc => ?_)
      · have hf := z_t hc hf
        refine lv_iconst (v := 1) hx hb d_M_isSize_22 (by decide) ?_
        refine lv_goto (tgt := 27) hx hb d_M_isSize_23 (by decide) ?_
        obtain rfl := Option.some.inj hf
        exact W.zret (ty := .boolean) hx hb hr (by decide) (fun t ht hW => ⟨_, rfl, rfl, ht⟩) (fun q h => by cases h) d_M_isSize_27
      · have hf := z_f hc hf
        refine lv_iload_n hx hb d_M_isSize_16 rfl (lv_at hl 0 rfl) ?_
        refine lv_bipush (v := 16) hx hb d_M_isSize_17 (by decide) ?_
        refine lv_icmp_ne (tgt := 26) hx hb d_M_isSize_19 (by decide) (fun hc => ?_) (fun hc => ?_)
        · have hf := z_f hc hf
          refine lv_iconst (v := 0) hx hb d_M_isSize_26 (by decide) ?_
          obtain rfl := Option.some.inj hf
          exact W.zret (ty := .boolean) hx hb hr (by decide) (fun t ht hW => ⟨_, rfl, rfl, ht⟩) (fun q h => by cases h) d_M_isSize_27
        · have hf := z_t hc hf
          refine lv_iconst (v := 1) hx hb d_M_isSize_22 (by decide) ?_
          refine lv_goto (tgt := 27) hx hb d_M_isSize_23 (by decide) ?_
          obtain rfl := Option.some.inj hf
          exact W.zret (ty := .boolean) hx hb hr (by decide) (fun t ht hW => ⟨_, rfl, rfl, ht⟩) (fun q h => by cases h) d_M_isSize_27
def f_M_layBlock_3 (p1 : Int32) (p2 : Int32) (p3 : Int32) (X_side : Int32) (Xpicture_n : Nat) (Xpicture_f : Nat → Int32) (Xrs_n : Nat) : Nat → Int32 → (Nat → Int32) → Option (Int32 × (Nat → Int32))
  | 0, _, _ => none
  | n + 1, v4, Xrs_f => if (p3 * p3) ≤ v4 then (some (v4, Xrs_f)) else (if p3 = 0 then none else (if p3 = 0 then none else (if ((((p2 + (v4 / p3)) * X_side) + p1) + (v4 - v4 / p3 * p3)) < 0 ∨ Xpicture_n ≤ ((((p2 + (v4 / p3)) * X_side) + p1) + (v4 - v4 / p3 * p3)).toNatClampNeg then none else (if v4 < 0 ∨ Xrs_n ≤ v4.toNatClampNeg then none else (f_M_layBlock_3 p1 p2 p3 X_side Xpicture_n Xpicture_f Xrs_n n (v4 + 1) (upd Xrs_f v4.toNatClampNeg (Xpicture_f ((((p2 + (v4 / p3)) * X_side) + p1) + (v4 - v4 / p3 * p3)).toNatClampNeg)))))))
def f_M_layBlock (x1 : Int32) (x2 : Int32) (x3 : Int32) (X_side : Int32) (Xpicture_n : Nat) (Xpicture_f : Nat → Int32) (Xrs_n : Nat) (Xrs_f : Nat → Int32) : Option (Nat → Int32) := (f_M_layBlock_3 x1 x2 x3 X_side Xpicture_n Xpicture_f Xrs_n FU (0 : Int32) Xrs_f).bind (fun q692 => some q692.2)
set_option maxHeartbeats 4000000 in
set_option maxRecDepth 100000 in
theorem c_M_layBlock (l : Launch) (dC : Nat → ClassId) (dI : Nat → Nat → Nat) (cI cL : ClassId) {ws0 : va_W} (sz : Nat) {aX aXpicture aXhalf aXblocks aXencoded aXfed aXpile aXnews aXolds aXhalves aXds aXrs aXbest : Nat} {X_code X_side X_many X_found X_encodedBits X_fedMany X_readAt X_why X_tried X_waiting X_decoded : Int32} {X_bestError : Int64} {Xpicture_n Xrs_n : Nat} {Xpicture_f Xrs_f : Nat → Int32} (x1 : Int32) (x2 : Int32) (x3 : Int32) (hN_X : zA ws0 21 (aX, .inr (7, [.int X_code, .int X_side, .ref aXpicture, .ref aXhalf, .int X_many, .ref aXblocks, .int X_found, .int X_encodedBits, .ref aXencoded, .int X_fedMany, .ref aXfed, .int X_readAt, .int X_why, .int X_tried, .int X_waiting, .ref aXpile, .int X_decoded, .ref aXnews, .ref aXolds, .ref aXhalves, .ref aXds, .ref aXrs, .ref aXbest, .long X_bestError]))) (hN_Xpicture : zA ws0 22 (aXpicture, .inl (cI, Xpicture_n, .inl Xpicture_f))) (hN_Xrs : zA ws0 32 (aXrs, .inl (cI, Xrs_n, .inl Xrs_f))) (r : Nat → Int32) (hf : f_M_layBlock x1 x2 x3 X_side Xpicture_n Xpicture_f Xrs_n Xrs_f = some r) : Met l y_M_layBlock w_M_layBlock rm_M_layBlock (va_Pc [.ref aX, .int x1, .int x2, .int x3] (zM dC dI cI cL ws0 sz)) (va_Qv (fun ws' : va_W => zA ws' 32 (aXrs, .inl (cI, Xrs_n, .inl r)) ∧ ∀ (j : Nat), j ∉ ([32] : List Nat) → ws'[j]? = ws0[j]?) (zQ dC dI cI cL (va_A ws0 sz)) (va_A ws0 sz)) 0 0 (va_A ws0 sz) := by
  refine Met.ofW (cc := b_M_layBlock) (maxL := 5) (ret := none) (by decide) rfl ?_
  intro p e s m args below meth c s₁ B hml hv
  obtain ⟨rfl, hsz, hP, hK, hZ, hD0⟩ := hv
  have hx := B.exec
  have hb := B.bytes
  have hr := B.returns
  have hlocks := B.notSynchronized
  have hts : ∀ w ∈ BIG, w.before ([.ref aX, .int x1, .int x2, .int x3] : List Value).toArray s = true := fun w h => atoms_spec (ws := w_M_layBlock) B.pre w (List.mem_cons_of_mem _ h)
  have hown : s.vm.findClass "FractalMapsModel" = some m.cls := findClass_of_methodNamed B.named
  subst hsz
  have hD := hD0.self (sz := s.heap.size)
  generalize hAe : va_A ws0 s.heap.size = A at hD ⊢
  have hA : ∀ q : Nat, s.heap.size ≤ q → A q := fun q h => by rw [← hAe]; exact Or.inr h
  have hS : va_S A s.heap s.heap [] := va_S.rf
  have hw : ∀ (j : Nat), j ∉ ([32] : List Nat) → ws0[j]? = ws0[j]? := fun _ _ => rfl
  have hl := lv_entry ([.ref aX, .int x1, .int x2, .int x3]) (n := 5) (Nat.le_of_ble_eq_true rfl)
  rw [lg_entry_eq]
  generalize (lg_sl ([.ref aX, .int x1, .int x2, .int x3]) ++ List.replicate (5 - (lg_sl ([.ref aX, .int x1, .int x2, .int x3])).length) Slot.unset).toArray = ls at hl ⊢
  have hl : lv_has ls 5 [(0, .ref aX), (1, .int x1), (2, .int x2), (3, .int x3)] := hl
  unfold f_M_layBlock at hf
  refine lv_iconst (v := 0) hx hb d_M_layBlock_0 (by decide) ?_
  refine lv_istore (lv' := [(4, .int (0 : Int32)), (0, .ref aX), (1, .int x1), (2, .int x2), (3, .int x3)]) hx hb d_M_layBlock_1 hl (by decide) rfl (fun ls hl => ?_)
  have lp695 : ∀ (Qx : State → Prop) (n : Nat) (v4_693 : Int32) (Xrs_f_694 : Nat → Int32) (ws : va_W) (H : Heap) (locs : List Loc) (ls : Array Slot) (q : Int32 × (Nat → Int32)) (hf : f_M_layBlock_3 x1 x2 x3 X_side Xpicture_n Xpicture_f Xrs_n n v4_693 Xrs_f_694 = some q) (hl : lv_has ls 5 [(0, .ref aX), (1, .int x1), (2, .int x2), (3, .int x3), (4, .int v4_693)]) (hP : va_P (dC, dI) classes ws H) (hD : va_D A ws) (hS : va_S A s.heap H locs) (hN_X : zA ws 21 (aX, .inr (7, [.int X_code, .int X_side, .ref aXpicture, .ref aXhalf, .int X_many, .ref aXblocks, .int X_found, .int X_encodedBits, .ref aXencoded, .int X_fedMany, .ref aXfed, .int X_readAt, .int X_why, .int X_tried, .int X_waiting, .ref aXpile, .int X_decoded, .ref aXnews, .ref aXolds, .ref aXhalves, .ref aXds, .ref aXrs, .ref aXbest, .long X_bestError]))) (hN_Xpicture : zA ws 22 (aXpicture, .inl (cI, Xpicture_n, .inl Xpicture_f))) (hN_Xrs : zA ws 32 (aXrs, .inl (cI, Xrs_n, .inl Xrs_f_694))) (hw : ∀ (j : Nat), j ∉ ([32] : List Nat) → ws[j]? = ws0[j]?) (kt0 : ∀ (ws : va_W) (H : Heap) (locs : List Loc) (ls : Array Slot), lv_has ls 5 [(0, .ref aX), (1, .int x1), (2, .int x2), (3, .int x3), (4, .int q.1)] → (va_P (dC, dI) classes ws H) → (va_D A ws) → (va_S A s.heap H locs) → (zA ws 21 (aX, .inr (7, [.int X_code, .int X_side, .ref aXpicture, .ref aXhalf, .int X_many, .ref aXblocks, .int X_found, .int X_encodedBits, .ref aXencoded, .int X_fedMany, .ref aXfed, .int X_readAt, .int X_why, .int X_tried, .int X_waiting, .ref aXpile, .int X_decoded, .ref aXnews, .ref aXolds, .ref aXhalves, .ref aXds, .ref aXrs, .ref aXbest, .long X_bestError]))) → (zA ws 22 (aXpicture, .inl (cI, Xpicture_n, .inl Xpicture_f))) → (zA ws 32 (aXrs, .inl (cI, Xrs_n, .inl q.2))) → (∀ (j : Nat), j ∉ ([32] : List Nat) → ws[j]? = ws0[j]?) → W p l e (headSpec w_M_layBlock rm_M_layBlock).room s m ([.ref aX, .int x1, .int x2, .int x3] : List Value).toArray below meth c H locs 0 0 Qx (F0 m 47 ls [])), W p l e (headSpec w_M_layBlock rm_M_layBlock).room s m ([.ref aX, .int x1, .int x2, .int x3] : List Value).toArray below meth c H locs 0 0 Qx (F0 m 3 ls []) := by
    intro Qx n
    induction n with
    | zero => intro v4_693 Xrs_f_694 ws H locs ls q hf; cases hf
    | succ n ih =>
      intro v4_693 Xrs_f_694 ws H locs ls q hf hl hP hD hS hN_X hN_Xpicture hN_Xrs hw kt0
      rw [f_M_layBlock_3] at hf
      refine lv_iload hx hb d_M_layBlock_3 (lv_at hl 4 rfl) ?_
      refine lv_iload_n hx hb d_M_layBlock_5 rfl (lv_at hl 3 rfl) ?_
      refine lv_iload_n hx hb d_M_layBlock_6 rfl (lv_at hl 3 rfl) ?_
      refine lv_imul hx hb d_M_layBlock_7 ?_
      refine lv_icmp_ge (tgt := 47) hx hb d_M_layBlock_8 (by decide) (fun hc => ?_) (fun hc => ?_)
      · have hf := z_t hc hf
        obtain rfl := Option.some.inj hf
        exact kt0 _ _ _ ls (lv_sub hl [0, 1, 2, 3, 4] rfl) hP hD hS hN_X hN_Xpicture hN_Xrs hw
      · have hf := z_f hc hf
        refine lv_aload_n hx hb d_M_layBlock_11 rfl (lv_at hl 0 rfl) ?_
        refine gf_M_40 (v := .ref aXrs) hx hb hts hown hK hP hN_X rfl d_M_layBlock_12 ?_
        refine lv_iload hx hb d_M_layBlock_15 (lv_at hl 4 rfl) ?_
        refine lv_aload_n hx hb d_M_layBlock_17 rfl (lv_at hl 0 rfl) ?_
        refine gf_M_7 (v := .ref aXpicture) hx hb hts hown hK hP hN_X rfl d_M_layBlock_18 ?_
        refine lv_iload_n hx hb d_M_layBlock_21 rfl (lv_at hl 2 rfl) ?_
        refine lv_iload hx hb d_M_layBlock_22 (lv_at hl 4 rfl) ?_
        refine lv_iload_n hx hb d_M_layBlock_24 rfl (lv_at hl 3 rfl) ?_
        obtain ⟨hne, hf⟩ := z_no hf
        refine lv_idiv hx hb d_M_layBlock_25 hne ?_
        refine lv_iadd hx hb d_M_layBlock_26 ?_
        refine lv_aload_n hx hb d_M_layBlock_27 rfl (lv_at hl 0 rfl) ?_
        refine gf_M_46 (v := .int X_side) hx hb hts hown hK hP hN_X rfl d_M_layBlock_28 ?_
        refine lv_imul hx hb d_M_layBlock_31 ?_
        refine lv_iload_n hx hb d_M_layBlock_32 rfl (lv_at hl 1 rfl) ?_
        refine lv_iadd hx hb d_M_layBlock_33 ?_
        refine lv_iload hx hb d_M_layBlock_34 (lv_at hl 4 rfl) ?_
        refine lv_iload_n hx hb d_M_layBlock_36 rfl (lv_at hl 3 rfl) ?_
        obtain ⟨hne, hf⟩ := z_no hf
        refine lv_irem hx hb d_M_layBlock_37 hne ?_
        refine lv_iadd hx hb d_M_layBlock_38 ?_
        obtain ⟨hin, hf⟩ := z_no hf
        refine va_iald hx hb hK hP _ 0 hN_Xpicture rfl hin d_M_layBlock_39 ?_
        obtain ⟨hin, hf⟩ := z_no hf
        refine z_iast hx hb hK hP hD hS hN_Xrs rfl hin d_M_layBlock_40 (fun ws H locs hP hD hS hN_Xrs hfr => ?_)
        have hN_Xrs : zA ws 32 (aXrs, .inl (cI, Xrs_n, .inl (upd Xrs_f_694 v4_693.toNatClampNeg (Xpicture_f ((((x2 + (v4_693 / x3)) * X_side) + x1) + (v4_693 - v4_693 / x3 * x3)).toNatClampNeg)))) := hN_Xrs
        have hN_X := (hfr _ (by decide)).trans hN_X
        have hN_Xpicture := (hfr _ (by decide)).trans hN_Xpicture
        have hw := z_fr (by decide) hw hfr
        refine lv_iinc (v := (v4_693 + 1)) (lv' := [(4, .int (v4_693 + 1)), (0, .ref aX), (1, .int x1), (2, .int x2), (3, .int x3)]) hx hb d_M_layBlock_41 hl (k := 4) rfl rfl (by decide) rfl (fun ls hl => ?_)
        refine lv_goto (tgt := 3) hx hb d_M_layBlock_44 (by decide) ?_
        exact ih (v4_693 + 1) (upd Xrs_f_694 v4_693.toNatClampNeg (Xpicture_f ((((x2 + (v4_693 / x3)) * X_side) + x1) + (v4_693 - v4_693 / x3 * x3)).toNatClampNeg)) _ _ _ ls _ hf (lv_sub hl [1, 2, 3, 4, 0] rfl) hP hD hS hN_X hN_Xpicture hN_Xrs hw kt0
  obtain ⟨q692, hc, hf⟩ := z_b hf
  refine lp695 _ FU (0 : Int32) Xrs_f _ _ _ ls q692 hc (lv_sub hl [1, 2, 3, 4, 0] rfl) hP hD hS hN_X hN_Xpicture hN_Xrs hw (fun ws H locs ls hl hP hD hS hN_X hN_Xpicture hN_Xrs hw => ?_)
  obtain rfl := Option.some.inj hf
  exact W.vret hx hb hr (fun t ht hW => ⟨⟨ws, rfl, ⟨hN_Xrs, hw⟩, by rw [ht]; exact hP, va_K.moved hW.alike hK, hD⟩, hS.F ht⟩) hS.2.2 d_M_layBlock_47
def f_M_quarterSum_5 (p1 : Int32) (p2 : Int32) (y0A_n : Nat) (y0A_f : Nat → Int32) : Nat → Int32 → Int32 → Option (Int32 × Int32)
  | 0, _, _ => none
  | n + 1, v3, v4 => if (p1 * p1) ≤ v4 then (some (v3, v4)) else (if p1 = 0 then none else (if (p1 / (2 : Int32)) ≤ (v4 / p1) then (if p1 = 0 then none else (if (p1 / (2 : Int32)) ≤ (v4 - v4 / p1 * p1) then (if ((2 : Int32) + (1 : Int32)) = p2 then (if v4 < 0 ∨ y0A_n ≤ v4.toNatClampNeg then none else (f_M_quarterSum_5 p1 p2 y0A_n y0A_f n (v3 + (y0A_f v4.toNatClampNeg)) (v4 + 1))) else (f_M_quarterSum_5 p1 p2 y0A_n y0A_f n (v3 + (0 : Int32)) (v4 + 1))) else (if ((2 : Int32) + (0 : Int32)) = p2 then (if v4 < 0 ∨ y0A_n ≤ v4.toNatClampNeg then none else (f_M_quarterSum_5 p1 p2 y0A_n y0A_f n (v3 + (y0A_f v4.toNatClampNeg)) (v4 + 1))) else (f_M_quarterSum_5 p1 p2 y0A_n y0A_f n (v3 + (0 : Int32)) (v4 + 1))))) else (if p1 = 0 then none else (if (p1 / (2 : Int32)) ≤ (v4 - v4 / p1 * p1) then (if ((0 : Int32) + (1 : Int32)) = p2 then (if v4 < 0 ∨ y0A_n ≤ v4.toNatClampNeg then none else (f_M_quarterSum_5 p1 p2 y0A_n y0A_f n (v3 + (y0A_f v4.toNatClampNeg)) (v4 + 1))) else (f_M_quarterSum_5 p1 p2 y0A_n y0A_f n (v3 + (0 : Int32)) (v4 + 1))) else (if ((0 : Int32) + (0 : Int32)) = p2 then (if v4 < 0 ∨ y0A_n ≤ v4.toNatClampNeg then none else (f_M_quarterSum_5 p1 p2 y0A_n y0A_f n (v3 + (y0A_f v4.toNatClampNeg)) (v4 + 1))) else (f_M_quarterSum_5 p1 p2 y0A_n y0A_f n (v3 + (0 : Int32)) (v4 + 1)))))))
def f_M_quarterSum (x1 : Int32) (x2 : Int32) (y0A_n : Nat) (y0A_f : Nat → Int32) : Option (Int32) := (f_M_quarterSum_5 x1 x2 y0A_n y0A_f FU (0 : Int32) (0 : Int32)).bind (fun q696 => some q696.1)
set_option maxHeartbeats 4000000 in
set_option maxRecDepth 100000 in
theorem c_M_quarterSum (l : Launch) (dC : Nat → ClassId) (dI : Nat → Nat → Nat) (cI cL : ClassId) {ws : va_W} {ky0A ay0A : Nat} {y0A_n : Nat} {y0A_f : Nat → Int32} (x1 : Int32) (x2 : Int32) (hN_y0A : zA ws ky0A (ay0A, .inl (cI, y0A_n, .inl y0A_f))) (r : Int32) (hf : f_M_quarterSum x1 x2 y0A_n y0A_f = some r) : Met l y_M_quarterSum w_M_quarterSum rm_M_quarterSum (va_Pc [.ref ay0A, .int x1, .int x2] (zR dC dI cI cL ws)) (vp_Si (fun v => v = r)) 0 0 (fun _ => False) := by
  refine Met.ofW (cc := b_M_quarterSum) (maxL := 6) (ret := some .int) (by decide) rfl ?_
  intro p e s m args below meth c s₁ B hml hv
  obtain ⟨rfl, hP, hK, hZ⟩ := hv
  have hx := B.exec
  have hb := B.bytes
  have hr := B.returns
  have hlocks := B.notSynchronized
  have hts : ∀ w ∈ BIG, w.before ([.ref ay0A, .int x1, .int x2] : List Value).toArray s = true := fun w h => atoms_spec (ws := w_M_quarterSum) B.pre w (List.mem_cons_of_mem _ h)
  have hown : s.vm.findClass "FractalMapsModel" = some m.cls := findClass_of_methodNamed B.named
  have hl := lv_entry ([.ref ay0A, .int x1, .int x2]) (n := 6) (Nat.le_of_ble_eq_true rfl)
  rw [lg_entry_eq]
  generalize (lg_sl ([.ref ay0A, .int x1, .int x2]) ++ List.replicate (6 - (lg_sl ([.ref ay0A, .int x1, .int x2])).length) Slot.unset).toArray = ls at hl ⊢
  have hl : lv_has ls 6 [(0, .ref ay0A), (1, .int x1), (2, .int x2)] := hl
  unfold f_M_quarterSum at hf
  refine lv_iconst (v := 0) hx hb d_M_quarterSum_0 (by decide) ?_
  refine lv_istore_n (lv' := [(3, .int (0 : Int32)), (0, .ref ay0A), (1, .int x1), (2, .int x2)]) hx hb d_M_quarterSum_1 rfl hl (by decide) rfl (fun ls hl => ?_)
  refine lv_iconst (v := 0) hx hb d_M_quarterSum_2 (by decide) ?_
  refine lv_istore (lv' := [(4, .int (0 : Int32)), (3, .int (0 : Int32)), (0, .ref ay0A), (1, .int x1), (2, .int x2)]) hx hb d_M_quarterSum_3 hl (by decide) rfl (fun ls hl => ?_)
  have lp699 : ∀ (Qx : State → Prop) (n : Nat) (v3_697 : Int32) (v4_698 : Int32) (ls : Array Slot) (q : Int32 × Int32) (hf : f_M_quarterSum_5 x1 x2 y0A_n y0A_f n v3_697 v4_698 = some q) (hl : lv_has ls 6 [(0, .ref ay0A), (1, .int x1), (2, .int x2), (3, .int v3_697), (4, .int v4_698)]) (kt0 : ∀ (ls : Array Slot), lv_has ls 6 [(0, .ref ay0A), (1, .int x1), (2, .int x2), (3, .int q.1), (4, .int q.2)] → W p l e (headSpec w_M_quarterSum rm_M_quarterSum).room s m ([.ref ay0A, .int x1, .int x2] : List Value).toArray below meth c s.heap [] 0 0 Qx (F0 m 69 ls [])), W p l e (headSpec w_M_quarterSum rm_M_quarterSum).room s m ([.ref ay0A, .int x1, .int x2] : List Value).toArray below meth c s.heap [] 0 0 Qx (F0 m 5 ls []) := by
    intro Qx n
    induction n with
    | zero => intro v3_697 v4_698 ls q hf; cases hf
    | succ n ih =>
      intro v3_697 v4_698 ls q hf hl kt0
      rw [f_M_quarterSum_5] at hf
      refine lv_iload hx hb d_M_quarterSum_5 (lv_at hl 4 rfl) ?_
      refine lv_iload_n hx hb d_M_quarterSum_7 rfl (lv_at hl 1 rfl) ?_
      refine lv_iload_n hx hb d_M_quarterSum_8 rfl (lv_at hl 1 rfl) ?_
      refine lv_imul hx hb d_M_quarterSum_9 ?_
      refine lv_icmp_ge (tgt := 69) hx hb d_M_quarterSum_10 (by decide) (fun hc => ?_) (fun hc => ?_)
      · have hf := z_t hc hf
        obtain rfl := Option.some.inj hf
        exact kt0 ls (lv_sub hl [0, 1, 2, 3, 4] rfl)
      · have hf := z_f hc hf
        refine lv_iload hx hb d_M_quarterSum_13 (lv_at hl 4 rfl) ?_
        refine lv_iload_n hx hb d_M_quarterSum_15 rfl (lv_at hl 1 rfl) ?_
        obtain ⟨hne, hf⟩ := z_no hf
        refine lv_idiv hx hb d_M_quarterSum_16 hne ?_
        refine lv_iload_n hx hb d_M_quarterSum_17 rfl (lv_at hl 1 rfl) ?_
        refine lv_iconst (v := 2) hx hb d_M_quarterSum_18 (by decide) ?_
        refine lv_idiv hx hb d_M_quarterSum_19 (by decide) ?_
        refine lv_icmp_ge (tgt := 27) hx hb d_M_quarterSum_20 (by decide) (fun hc => ?_) (fun hc => ?_)
        · have hf := z_t hc hf
          refine lv_iconst (v := 2) hx hb d_M_quarterSum_27 (by decide) ?_
          refine lv_iload hx hb d_M_quarterSum_28 (lv_at hl 4 rfl) ?_
          refine lv_iload_n hx hb d_M_quarterSum_30 rfl (lv_at hl 1 rfl) ?_
          obtain ⟨hne, hf⟩ := z_no hf
          refine lv_irem hx hb d_M_quarterSum_31 hne ?_
          refine lv_iload_n hx hb d_M_quarterSum_32 rfl (lv_at hl 1 rfl) ?_
          refine lv_iconst (v := 2) hx hb d_M_quarterSum_33 (by decide) ?_
          refine lv_idiv hx hb d_M_quarterSum_34 (by decide) ?_
          refine lv_icmp_ge (tgt := 42) hx hb d_M_quarterSum_35 (by decide) (fun hc => ?_) (fun hc => ?_)
          · have hf := z_t hc hf
            refine lv_iconst (v := 1) hx hb d_M_quarterSum_42 (by decide) ?_
            refine lv_iadd hx hb d_M_quarterSum_43 ?_
            refine lv_istore (lv' := [(5, .int ((2 : Int32) + (1 : Int32))), (0, .ref ay0A), (1, .int x1), (2, .int x2), (3, .int v3_697), (4, .int v4_698)]) hx hb d_M_quarterSum_44 hl (by decide) rfl (fun ls hl => ?_)
            refine lv_iload_n hx hb d_M_quarterSum_46 rfl (lv_at hl 4 rfl) ?_
            refine lv_iload hx hb d_M_quarterSum_47 (lv_at hl 0 rfl) ?_
            refine lv_iload_n hx hb d_M_quarterSum_49 rfl (lv_at hl 3 rfl) ?_
            refine lv_icmp_ne (tgt := 60) hx hb d_M_quarterSum_50 (by decide) (fun hc => ?_) (fun hc => ?_)
            · have hf := z_f hc hf
              refine lv_iconst (v := 0) hx hb d_M_quarterSum_60 (by decide) ?_
              refine lv_iadd hx hb d_M_quarterSum_61 ?_
              refine lv_istore_n (lv' := [(3, .int (v3_697 + (0 : Int32))), (5, .int ((2 : Int32) + (1 : Int32))), (0, .ref ay0A), (1, .int x1), (2, .int x2), (4, .int v4_698)]) hx hb d_M_quarterSum_62 rfl hl (by decide) rfl (fun ls hl => ?_)
              refine lv_iinc (v := (v4_698 + 1)) (lv' := [(4, .int (v4_698 + 1)), (3, .int (v3_697 + (0 : Int32))), (5, .int ((2 : Int32) + (1 : Int32))), (0, .ref ay0A), (1, .int x1), (2, .int x2)]) hx hb d_M_quarterSum_63 hl (k := 5) rfl rfl (by decide) rfl (fun ls hl => ?_)
              refine lv_goto (tgt := 5) hx hb d_M_quarterSum_66 (by decide) ?_
              exact ih (v3_697 + (0 : Int32)) (v4_698 + 1) ls _ hf (lv_sub hl [3, 4, 5, 1, 0] rfl) kt0
            · have hf := z_t hc hf
              refine lv_aload_n hx hb d_M_quarterSum_53 rfl (lv_at hl 1 rfl) ?_
              refine lv_iload hx hb d_M_quarterSum_54 (lv_at hl 5 rfl) ?_
              obtain ⟨hin, hf⟩ := z_no hf
              refine va_iald hx hb hK hP _ 0 hN_y0A rfl hin d_M_quarterSum_56 ?_
              refine lv_goto (tgt := 61) hx hb d_M_quarterSum_57 (by decide) ?_
              refine lv_iadd hx hb d_M_quarterSum_61 ?_
              refine lv_istore_n (lv' := [(3, .int (v3_697 + (y0A_f v4_698.toNatClampNeg))), (5, .int ((2 : Int32) + (1 : Int32))), (0, .ref ay0A), (1, .int x1), (2, .int x2), (4, .int v4_698)]) hx hb d_M_quarterSum_62 rfl hl (by decide) rfl (fun ls hl => ?_)
              refine lv_iinc (v := (v4_698 + 1)) (lv' := [(4, .int (v4_698 + 1)), (3, .int (v3_697 + (y0A_f v4_698.toNatClampNeg))), (5, .int ((2 : Int32) + (1 : Int32))), (0, .ref ay0A), (1, .int x1), (2, .int x2)]) hx hb d_M_quarterSum_63 hl (k := 5) rfl rfl (by decide) rfl (fun ls hl => ?_)
              refine lv_goto (tgt := 5) hx hb d_M_quarterSum_66 (by decide) ?_
              exact ih (v3_697 + (y0A_f v4_698.toNatClampNeg)) (v4_698 + 1) ls _ hf (lv_sub hl [3, 4, 5, 1, 0] rfl) kt0
          · have hf := z_f hc hf
            refine lv_iconst (v := 0) hx hb d_M_quarterSum_38 (by decide) ?_
            refine lv_goto (tgt := 43) hx hb d_M_quarterSum_39 (by decide) ?_
            refine lv_iadd hx hb d_M_quarterSum_43 ?_
            refine lv_istore (lv' := [(5, .int ((2 : Int32) + (0 : Int32))), (0, .ref ay0A), (1, .int x1), (2, .int x2), (3, .int v3_697), (4, .int v4_698)]) hx hb d_M_quarterSum_44 hl (by decide) rfl (fun ls hl => ?_)
            refine lv_iload_n hx hb d_M_quarterSum_46 rfl (lv_at hl 4 rfl) ?_
            refine lv_iload hx hb d_M_quarterSum_47 (lv_at hl 0 rfl) ?_
            refine lv_iload_n hx hb d_M_quarterSum_49 rfl (lv_at hl 3 rfl) ?_
            refine lv_icmp_ne (tgt := 60) hx hb d_M_quarterSum_50 (by decide) (fun hc => ?_) (fun hc => ?_)
            · have hf := z_f hc hf
              refine lv_iconst (v := 0) hx hb d_M_quarterSum_60 (by decide) ?_
              refine lv_iadd hx hb d_M_quarterSum_61 ?_
              refine lv_istore_n (lv' := [(3, .int (v3_697 + (0 : Int32))), (5, .int ((2 : Int32) + (0 : Int32))), (0, .ref ay0A), (1, .int x1), (2, .int x2), (4, .int v4_698)]) hx hb d_M_quarterSum_62 rfl hl (by decide) rfl (fun ls hl => ?_)
              refine lv_iinc (v := (v4_698 + 1)) (lv' := [(4, .int (v4_698 + 1)), (3, .int (v3_697 + (0 : Int32))), (5, .int ((2 : Int32) + (0 : Int32))), (0, .ref ay0A), (1, .int x1), (2, .int x2)]) hx hb d_M_quarterSum_63 hl (k := 5) rfl rfl (by decide) rfl (fun ls hl => ?_)
              refine lv_goto (tgt := 5) hx hb d_M_quarterSum_66 (by decide) ?_
              exact ih (v3_697 + (0 : Int32)) (v4_698 + 1) ls _ hf (lv_sub hl [3, 4, 5, 1, 0] rfl) kt0
            · have hf := z_t hc hf
              refine lv_aload_n hx hb d_M_quarterSum_53 rfl (lv_at hl 1 rfl) ?_
              refine lv_iload hx hb d_M_quarterSum_54 (lv_at hl 5 rfl) ?_
              obtain ⟨hin, hf⟩ := z_no hf
              refine va_iald hx hb hK hP _ 0 hN_y0A rfl hin d_M_quarterSum_56 ?_
              refine lv_goto (tgt := 61) hx hb d_M_quarterSum_57 (by decide) ?_
              refine lv_iadd hx hb d_M_quarterSum_61 ?_
              refine lv_istore_n (lv' := [(3, .int (v3_697 + (y0A_f v4_698.toNatClampNeg))), (5, .int ((2 : Int32) + (0 : Int32))), (0, .ref ay0A), (1, .int x1), (2, .int x2), (4, .int v4_698)]) hx hb d_M_quarterSum_62 rfl hl (by decide) rfl (fun ls hl => ?_)
              refine lv_iinc (v := (v4_698 + 1)) (lv' := [(4, .int (v4_698 + 1)), (3, .int (v3_697 + (y0A_f v4_698.toNatClampNeg))), (5, .int ((2 : Int32) + (0 : Int32))), (0, .ref ay0A), (1, .int x1), (2, .int x2)]) hx hb d_M_quarterSum_63 hl (k := 5) rfl rfl (by decide) rfl (fun ls hl => ?_)
              refine lv_goto (tgt := 5) hx hb d_M_quarterSum_66 (by decide) ?_
              exact ih (v3_697 + (y0A_f v4_698.toNatClampNeg)) (v4_698 + 1) ls _ hf (lv_sub hl [3, 4, 5, 1, 0] rfl) kt0
        · have hf := z_f hc hf
          refine lv_iconst (v := 0) hx hb d_M_quarterSum_23 (by decide) ?_
          refine lv_goto (tgt := 28) hx hb d_M_quarterSum_24 (by decide) ?_
          refine lv_iload hx hb d_M_quarterSum_28 (lv_at hl 4 rfl) ?_
          refine lv_iload_n hx hb d_M_quarterSum_30 rfl (lv_at hl 1 rfl) ?_
          obtain ⟨hne, hf⟩ := z_no hf
          refine lv_irem hx hb d_M_quarterSum_31 hne ?_
          refine lv_iload_n hx hb d_M_quarterSum_32 rfl (lv_at hl 1 rfl) ?_
          refine lv_iconst (v := 2) hx hb d_M_quarterSum_33 (by decide) ?_
          refine lv_idiv hx hb d_M_quarterSum_34 (by decide) ?_
          refine lv_icmp_ge (tgt := 42) hx hb d_M_quarterSum_35 (by decide) (fun hc => ?_) (fun hc => ?_)
          · have hf := z_t hc hf
            refine lv_iconst (v := 1) hx hb d_M_quarterSum_42 (by decide) ?_
            refine lv_iadd hx hb d_M_quarterSum_43 ?_
            refine lv_istore (lv' := [(5, .int ((0 : Int32) + (1 : Int32))), (0, .ref ay0A), (1, .int x1), (2, .int x2), (3, .int v3_697), (4, .int v4_698)]) hx hb d_M_quarterSum_44 hl (by decide) rfl (fun ls hl => ?_)
            refine lv_iload_n hx hb d_M_quarterSum_46 rfl (lv_at hl 4 rfl) ?_
            refine lv_iload hx hb d_M_quarterSum_47 (lv_at hl 0 rfl) ?_
            refine lv_iload_n hx hb d_M_quarterSum_49 rfl (lv_at hl 3 rfl) ?_
            refine lv_icmp_ne (tgt := 60) hx hb d_M_quarterSum_50 (by decide) (fun hc => ?_) (fun hc => ?_)
            · have hf := z_f hc hf
              refine lv_iconst (v := 0) hx hb d_M_quarterSum_60 (by decide) ?_
              refine lv_iadd hx hb d_M_quarterSum_61 ?_
              refine lv_istore_n (lv' := [(3, .int (v3_697 + (0 : Int32))), (5, .int ((0 : Int32) + (1 : Int32))), (0, .ref ay0A), (1, .int x1), (2, .int x2), (4, .int v4_698)]) hx hb d_M_quarterSum_62 rfl hl (by decide) rfl (fun ls hl => ?_)
              refine lv_iinc (v := (v4_698 + 1)) (lv' := [(4, .int (v4_698 + 1)), (3, .int (v3_697 + (0 : Int32))), (5, .int ((0 : Int32) + (1 : Int32))), (0, .ref ay0A), (1, .int x1), (2, .int x2)]) hx hb d_M_quarterSum_63 hl (k := 5) rfl rfl (by decide) rfl (fun ls hl => ?_)
              refine lv_goto (tgt := 5) hx hb d_M_quarterSum_66 (by decide) ?_
              exact ih (v3_697 + (0 : Int32)) (v4_698 + 1) ls _ hf (lv_sub hl [3, 4, 5, 1, 0] rfl) kt0
            · have hf := z_t hc hf
              refine lv_aload_n hx hb d_M_quarterSum_53 rfl (lv_at hl 1 rfl) ?_
              refine lv_iload hx hb d_M_quarterSum_54 (lv_at hl 5 rfl) ?_
              obtain ⟨hin, hf⟩ := z_no hf
              refine va_iald hx hb hK hP _ 0 hN_y0A rfl hin d_M_quarterSum_56 ?_
              refine lv_goto (tgt := 61) hx hb d_M_quarterSum_57 (by decide) ?_
              refine lv_iadd hx hb d_M_quarterSum_61 ?_
              refine lv_istore_n (lv' := [(3, .int (v3_697 + (y0A_f v4_698.toNatClampNeg))), (5, .int ((0 : Int32) + (1 : Int32))), (0, .ref ay0A), (1, .int x1), (2, .int x2), (4, .int v4_698)]) hx hb d_M_quarterSum_62 rfl hl (by decide) rfl (fun ls hl => ?_)
              refine lv_iinc (v := (v4_698 + 1)) (lv' := [(4, .int (v4_698 + 1)), (3, .int (v3_697 + (y0A_f v4_698.toNatClampNeg))), (5, .int ((0 : Int32) + (1 : Int32))), (0, .ref ay0A), (1, .int x1), (2, .int x2)]) hx hb d_M_quarterSum_63 hl (k := 5) rfl rfl (by decide) rfl (fun ls hl => ?_)
              refine lv_goto (tgt := 5) hx hb d_M_quarterSum_66 (by decide) ?_
              exact ih (v3_697 + (y0A_f v4_698.toNatClampNeg)) (v4_698 + 1) ls _ hf (lv_sub hl [3, 4, 5, 1, 0] rfl) kt0
          · have hf := z_f hc hf
            refine lv_iconst (v := 0) hx hb d_M_quarterSum_38 (by decide) ?_
            refine lv_goto (tgt := 43) hx hb d_M_quarterSum_39 (by decide) ?_
            refine lv_iadd hx hb d_M_quarterSum_43 ?_
            refine lv_istore (lv' := [(5, .int ((0 : Int32) + (0 : Int32))), (0, .ref ay0A), (1, .int x1), (2, .int x2), (3, .int v3_697), (4, .int v4_698)]) hx hb d_M_quarterSum_44 hl (by decide) rfl (fun ls hl => ?_)
            refine lv_iload_n hx hb d_M_quarterSum_46 rfl (lv_at hl 4 rfl) ?_
            refine lv_iload hx hb d_M_quarterSum_47 (lv_at hl 0 rfl) ?_
            refine lv_iload_n hx hb d_M_quarterSum_49 rfl (lv_at hl 3 rfl) ?_
            refine lv_icmp_ne (tgt := 60) hx hb d_M_quarterSum_50 (by decide) (fun hc => ?_) (fun hc => ?_)
            · have hf := z_f hc hf
              refine lv_iconst (v := 0) hx hb d_M_quarterSum_60 (by decide) ?_
              refine lv_iadd hx hb d_M_quarterSum_61 ?_
              refine lv_istore_n (lv' := [(3, .int (v3_697 + (0 : Int32))), (5, .int ((0 : Int32) + (0 : Int32))), (0, .ref ay0A), (1, .int x1), (2, .int x2), (4, .int v4_698)]) hx hb d_M_quarterSum_62 rfl hl (by decide) rfl (fun ls hl => ?_)
              refine lv_iinc (v := (v4_698 + 1)) (lv' := [(4, .int (v4_698 + 1)), (3, .int (v3_697 + (0 : Int32))), (5, .int ((0 : Int32) + (0 : Int32))), (0, .ref ay0A), (1, .int x1), (2, .int x2)]) hx hb d_M_quarterSum_63 hl (k := 5) rfl rfl (by decide) rfl (fun ls hl => ?_)
              refine lv_goto (tgt := 5) hx hb d_M_quarterSum_66 (by decide) ?_
              exact ih (v3_697 + (0 : Int32)) (v4_698 + 1) ls _ hf (lv_sub hl [3, 4, 5, 1, 0] rfl) kt0
            · have hf := z_t hc hf
              refine lv_aload_n hx hb d_M_quarterSum_53 rfl (lv_at hl 1 rfl) ?_
              refine lv_iload hx hb d_M_quarterSum_54 (lv_at hl 5 rfl) ?_
              obtain ⟨hin, hf⟩ := z_no hf
              refine va_iald hx hb hK hP _ 0 hN_y0A rfl hin d_M_quarterSum_56 ?_
              refine lv_goto (tgt := 61) hx hb d_M_quarterSum_57 (by decide) ?_
              refine lv_iadd hx hb d_M_quarterSum_61 ?_
              refine lv_istore_n (lv' := [(3, .int (v3_697 + (y0A_f v4_698.toNatClampNeg))), (5, .int ((0 : Int32) + (0 : Int32))), (0, .ref ay0A), (1, .int x1), (2, .int x2), (4, .int v4_698)]) hx hb d_M_quarterSum_62 rfl hl (by decide) rfl (fun ls hl => ?_)
              refine lv_iinc (v := (v4_698 + 1)) (lv' := [(4, .int (v4_698 + 1)), (3, .int (v3_697 + (y0A_f v4_698.toNatClampNeg))), (5, .int ((0 : Int32) + (0 : Int32))), (0, .ref ay0A), (1, .int x1), (2, .int x2)]) hx hb d_M_quarterSum_63 hl (k := 5) rfl rfl (by decide) rfl (fun ls hl => ?_)
              refine lv_goto (tgt := 5) hx hb d_M_quarterSum_66 (by decide) ?_
              exact ih (v3_697 + (y0A_f v4_698.toNatClampNeg)) (v4_698 + 1) ls _ hf (lv_sub hl [3, 4, 5, 1, 0] rfl) kt0
  obtain ⟨q696, hc, hf⟩ := z_b hf
  refine lp699 _ FU (0 : Int32) (0 : Int32) ls q696 hc (lv_sub hl [2, 3, 4, 1, 0] rfl) (fun ls hl => ?_)
  refine lv_iload_n hx hb d_M_quarterSum_69 rfl (lv_at hl 3 rfl) ?_
  obtain rfl := Option.some.inj hf
  exact W.iret hx hb hr (fun t ht hW => ⟨_, rfl, rfl, ht⟩) (fun q h => by cases h) d_M_quarterSum_70
def f_M_classOf_4 (p1 : Int32) (y0A_n : Nat) (y0A_f : Nat → Int32) : Nat → Int32 → Int32 → Option (Int32 × Int32)
  | 0, _, _ => none
  | n + 1, v2, v3 => if v3 < 0 then (some (v2, v3)) else ((f_M_quarterSum p1 v3 y0A_n y0A_f).bind (fun q700 => (f_M_quarterSum p1 v2 y0A_n y0A_f).bind (fun q702 => if q700 < q702 then (f_M_classOf_4 p1 y0A_n y0A_f n v2 (v3 + (-1))) else (f_M_classOf_4 p1 y0A_n y0A_f n v3 (v3 + (-1))))))
def f_M_classOf (x1 : Int32) (y0A_n : Nat) (y0A_f : Nat → Int32) : Option (Int32) := (f_M_classOf_4 x1 y0A_n y0A_f FU (3 : Int32) (2 : Int32)).bind (fun q704 => some q704.1)
set_option maxHeartbeats 4000000 in
set_option maxRecDepth 100000 in
theorem c_M_classOf (l : Launch) (dC : Nat → ClassId) (dI : Nat → Nat → Nat) (cI cL : ClassId) {ws : va_W} {ky0A ay0A : Nat} {y0A_n : Nat} {y0A_f : Nat → Int32} (x1 : Int32) (hN_y0A : zA ws ky0A (ay0A, .inl (cI, y0A_n, .inl y0A_f))) (r : Int32) (hf : f_M_classOf x1 y0A_n y0A_f = some r) : Met l y_M_classOf w_M_classOf rm_M_classOf (va_Pc [.ref ay0A, .int x1] (zR dC dI cI cL ws)) (vp_Si (fun v => v = r)) 0 0 (fun _ => False) := by
  refine Met.ofW (cc := b_M_classOf) (maxL := 4) (ret := some .int) (by decide) rfl ?_
  intro p e s m args below meth c s₁ B hml hv
  obtain ⟨rfl, hP, hK, hZ⟩ := hv
  have hx := B.exec
  have hb := B.bytes
  have hr := B.returns
  have hlocks := B.notSynchronized
  have hts : ∀ w ∈ BIG, w.before ([.ref ay0A, .int x1] : List Value).toArray s = true := fun w h => atoms_spec (ws := w_M_classOf) B.pre w (List.mem_cons_of_mem _ h)
  have hown : s.vm.findClass "FractalMapsModel" = some m.cls := findClass_of_methodNamed B.named
  have hl := lv_entry ([.ref ay0A, .int x1]) (n := 4) (Nat.le_of_ble_eq_true rfl)
  rw [lg_entry_eq]
  generalize (lg_sl ([.ref ay0A, .int x1]) ++ List.replicate (4 - (lg_sl ([.ref ay0A, .int x1])).length) Slot.unset).toArray = ls at hl ⊢
  have hl : lv_has ls 4 [(0, .ref ay0A), (1, .int x1)] := hl
  unfold f_M_classOf at hf
  refine lv_iconst (v := 3) hx hb d_M_classOf_0 (by decide) ?_
  refine lv_istore_n (lv' := [(2, .int (3 : Int32)), (0, .ref ay0A), (1, .int x1)]) hx hb d_M_classOf_1 rfl hl (by decide) rfl (fun ls hl => ?_)
  refine lv_iconst (v := 2) hx hb d_M_classOf_2 (by decide) ?_
  refine lv_istore_n (lv' := [(3, .int (2 : Int32)), (2, .int (3 : Int32)), (0, .ref ay0A), (1, .int x1)]) hx hb d_M_classOf_3 rfl hl (by decide) rfl (fun ls hl => ?_)
  have lp707 : ∀ (Qx : State → Prop) (n : Nat) (v2_705 : Int32) (v3_706 : Int32) (ls : Array Slot) (q : Int32 × Int32) (hf : f_M_classOf_4 x1 y0A_n y0A_f n v2_705 v3_706 = some q) (hl : lv_has ls 4 [(0, .ref ay0A), (1, .int x1), (2, .int v2_705), (3, .int v3_706)]) (kt0 : ∀ (ls : Array Slot), lv_has ls 4 [(0, .ref ay0A), (1, .int x1), (2, .int q.1), (3, .int q.2)] → W p l e (headSpec w_M_classOf rm_M_classOf).room s m ([.ref ay0A, .int x1] : List Value).toArray below meth c s.heap [] 0 0 Qx (F0 m 35 ls [])), W p l e (headSpec w_M_classOf rm_M_classOf).room s m ([.ref ay0A, .int x1] : List Value).toArray below meth c s.heap [] 0 0 Qx (F0 m 4 ls []) := by
    intro Qx n
    induction n with
    | zero => intro v2_705 v3_706 ls q hf; cases hf
    | succ n ih =>
      intro v2_705 v3_706 ls q hf hl kt0
      rw [f_M_classOf_4] at hf
      refine lv_iload_n hx hb d_M_classOf_4 rfl (lv_at hl 3 rfl) ?_
      refine lv_if_lt (tgt := 35) hx hb d_M_classOf_5 (by decide) (fun hc => ?_) (fun hc => ?_)
      · have hf := z_t hc hf
        obtain rfl := Option.some.inj hf
        exact kt0 ls (lv_sub hl [0, 1, 2, 3] rfl)
      · have hf := z_f hc hf
        refine lv_aload_n hx hb d_M_classOf_8 rfl (lv_at hl 0 rfl) ?_
        refine lv_iload_n hx hb d_M_classOf_9 rfl (lv_at hl 1 rfl) ?_
        refine lv_iload_n hx hb d_M_classOf_10 rfl (lv_at hl 3 rfl) ?_
        obtain ⟨q708, hc, hf⟩ := z_b hf
        refine vp_callSi (z_cr (va_runS (As := [.ref ay0A, .int x1, .int v3_706]) (rest := []) ⟨hx, hb, hml, hown, hts⟩ (c_M_quarterSum l dC dI cI cL x1 v3_706 hN_y0A q708 hc) (cw_M_77 hts ⟨Nat.le_of_ble_eq_true rfl, Nat.le_of_ble_eq_true rfl⟩) ⟨zbR, (zpR hP hK hZ)⟩ rfl rfl hl.1 rfl (lv_room (Nat.le_of_ble_eq_true rfl)) d_M_classOf_11 ⟨Nat.zero_le _, Nat.zero_le _⟩)) (fun r709 hv => ?_)
        have hv := hv.symm
        subst hv
        refine lv_aload_n hx hb d_M_classOf_14 rfl (lv_at hl 0 rfl) ?_
        refine lv_iload_n hx hb d_M_classOf_15 rfl (lv_at hl 1 rfl) ?_
        refine lv_iload_n hx hb d_M_classOf_16 rfl (lv_at hl 2 rfl) ?_
        obtain ⟨q710, hc, hf⟩ := z_b hf
        refine vp_callSi (z_cr (va_runS (As := [.ref ay0A, .int x1, .int v2_705]) (rest := [.int q708]) ⟨hx, hb, hml, hown, hts⟩ (c_M_quarterSum l dC dI cI cL x1 v2_705 hN_y0A q710 hc) (cw_M_77 hts ⟨Nat.le_of_ble_eq_true rfl, Nat.le_of_ble_eq_true rfl⟩) ⟨zbR, (zpR hP hK hZ)⟩ rfl rfl hl.1 rfl (lv_room (Nat.le_of_ble_eq_true rfl)) d_M_classOf_17 ⟨Nat.zero_le _, Nat.zero_le _⟩)) (fun r711 hv => ?_)
        have hv := hv.symm
        subst hv
        refine lv_icmp_lt (tgt := 27) hx hb d_M_classOf_20 (by decide) (fun hc => ?_) (fun hc => ?_)
        · have hf := z_t hc hf
          refine lv_iload_n hx hb d_M_classOf_27 rfl (lv_at hl 2 rfl) ?_
          refine lv_istore_n (lv' := [(2, .int v2_705), (0, .ref ay0A), (1, .int x1), (3, .int v3_706)]) hx hb d_M_classOf_28 rfl hl (by decide) rfl (fun ls hl => ?_)
          refine lv_iinc (v := (v3_706 + (-1))) (lv' := [(3, .int (v3_706 + (-1))), (2, .int v2_705), (0, .ref ay0A), (1, .int x1)]) hx hb d_M_classOf_29 hl (k := 3) rfl rfl (by decide) rfl (fun ls hl => ?_)
          refine lv_goto (tgt := 4) hx hb d_M_classOf_32 (by decide) ?_
          exact ih v2_705 (v3_706 + (-1)) ls _ hf (lv_sub hl [2, 3, 1, 0] rfl) kt0
        · have hf := z_f hc hf
          refine lv_iload_n hx hb d_M_classOf_23 rfl (lv_at hl 3 rfl) ?_
          refine lv_goto (tgt := 28) hx hb d_M_classOf_24 (by decide) ?_
          refine lv_istore_n (lv' := [(2, .int v3_706), (0, .ref ay0A), (1, .int x1), (3, .int v3_706)]) hx hb d_M_classOf_28 rfl hl (by decide) rfl (fun ls hl => ?_)
          refine lv_iinc (v := (v3_706 + (-1))) (lv' := [(3, .int (v3_706 + (-1))), (2, .int v3_706), (0, .ref ay0A), (1, .int x1)]) hx hb d_M_classOf_29 hl (k := 3) rfl rfl (by decide) rfl (fun ls hl => ?_)
          refine lv_goto (tgt := 4) hx hb d_M_classOf_32 (by decide) ?_
          exact ih v3_706 (v3_706 + (-1)) ls _ hf (lv_sub hl [2, 3, 1, 0] rfl) kt0
  obtain ⟨q704, hc, hf⟩ := z_b hf
  refine lp707 _ FU (3 : Int32) (2 : Int32) ls q704 hc (lv_sub hl [2, 3, 1, 0] rfl) (fun ls hl => ?_)
  refine lv_iload_n hx hb d_M_classOf_35 rfl (lv_at hl 2 rfl) ?_
  obtain rfl := Option.some.inj hf
  exact W.iret hx hb hr (fun t ht hW => ⟨_, rfl, rfl, ht⟩) (fun q h => by cases h) d_M_classOf_36
