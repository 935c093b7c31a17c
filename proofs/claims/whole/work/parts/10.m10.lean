def f_M_takeFound_2 (X_found : Int32) (Xblocks_n : Nat) : Nat → Int32 → (Nat → Int32) → Option (Int32 × (Nat → Int32))
  | 0, _, _ => none
  | n + 1, v1, Xblocks_f => if ((8 : Int32) * X_found) ≤ v1 then (some (v1, Xblocks_f)) else (if ((2048 : Int32) + v1) < 0 ∨ Xblocks_n ≤ ((2048 : Int32) + v1).toNatClampNeg then none else (if v1 < 0 ∨ Xblocks_n ≤ v1.toNatClampNeg then none else (f_M_takeFound_2 X_found Xblocks_n n (v1 + 1) (upd Xblocks_f v1.toNatClampNeg (Xblocks_f ((2048 : Int32) + v1).toNatClampNeg)))))
def f_M_takeFound (X_found : Int32) (Xblocks_n : Nat) (Xblocks_f : Nat → Int32) : Option (Int32 × (Nat → Int32)) := (f_M_takeFound_2 X_found Xblocks_n FU (0 : Int32) Xblocks_f).bind (fun q271 => some (X_found, q271.2))
set_option maxHeartbeats 4000000 in
set_option maxRecDepth 100000 in
theorem c_M_takeFound (l : Launch) (dC : Nat → ClassId) (dI : Nat → Nat → Nat) (cI cL : ClassId) {ws0 : va_W} (sz : Nat) {aX aXpicture aXhalf aXblocks aXencoded aXfed aXpile aXnews aXolds aXhalves aXds aXrs aXbest : Nat} {X_code X_side X_many X_found X_encodedBits X_fedMany X_readAt X_why X_tried X_waiting X_decoded : Int32} {X_bestError : Int64} {Xblocks_n : Nat} {Xblocks_f : Nat → Int32} (hN_X : ws0[21]? = some (aX, .inr (7, [.int X_code, .int X_side, .ref aXpicture, .ref aXhalf, .int X_many, .ref aXblocks, .int X_found, .int X_encodedBits, .ref aXencoded, .int X_fedMany, .ref aXfed, .int X_readAt, .int X_why, .int X_tried, .int X_waiting, .ref aXpile, .int X_decoded, .ref aXnews, .ref aXolds, .ref aXhalves, .ref aXds, .ref aXrs, .ref aXbest, .long X_bestError]))) (hN_Xblocks : ws0[24]? = some (aXblocks, .inl (cI, Xblocks_n, .inl Xblocks_f))) (r : Int32 × (Nat → Int32)) (hf : f_M_takeFound X_found Xblocks_n Xblocks_f = some r) : Met l y_M_takeFound w_M_takeFound rm_M_takeFound (va_Pc [.ref aX] (zM dC dI cI cL ws0 sz)) (va_Qv (fun ws' : va_W => ws'[21]? = some (aX, .inr (7, [.int X_code, .int X_side, .ref aXpicture, .ref aXhalf, .int r.1, .ref aXblocks, .int X_found, .int X_encodedBits, .ref aXencoded, .int X_fedMany, .ref aXfed, .int X_readAt, .int X_why, .int X_tried, .int X_waiting, .ref aXpile, .int X_decoded, .ref aXnews, .ref aXolds, .ref aXhalves, .ref aXds, .ref aXrs, .ref aXbest, .long X_bestError])) ∧ ws'[24]? = some (aXblocks, .inl (cI, Xblocks_n, .inl r.2)) ∧ ∀ j, j ∉ [21, 24] → ws'[j]? = ws0[j]?) (zQ dC dI cI cL (va_A ws0 sz)) (va_A ws0 sz)) 0 0 (va_A ws0 sz) := by
  refine Met.ofW (cc := b_M_takeFound) (maxL := 2) (ret := none) (by decide) rfl ?_
  intro p e s m args below meth c s₁ B hml hv
  obtain ⟨rfl, hsz, hP, hK, hZ, hD0⟩ := hv
  have hx := B.exec
  have hb := B.bytes
  have hr := B.returns
  have hlocks := B.notSynchronized
  have hts : ∀ w ∈ BIG, w.before ([.ref aX] : List Value).toArray s = true := fun w h => atoms_spec (ws := w_M_takeFound) B.pre w (List.mem_cons_of_mem _ h)
  have hown : s.vm.findClass "FractalMapsModel" = some m.cls := findClass_of_methodNamed B.named
  subst hsz
  have hD := hD0.self (sz := s.heap.size)
  generalize hAe : va_A ws0 s.heap.size = A at hD ⊢
  have hA : ∀ q : Nat, s.heap.size ≤ q → A q := fun q h => by rw [← hAe]; exact Or.inr h
  have hS : va_S A s.heap s.heap [] := va_S.rf
  have hw : ∀ j, j ∉ [21, 24] → ws0[j]? = ws0[j]? := fun _ _ => rfl
  have hl := lv_entry ([.ref aX]) (n := 2) (Nat.le_of_ble_eq_true rfl)
  rw [lg_entry_eq]
  generalize (lg_sl ([.ref aX]) ++ List.replicate (2 - (lg_sl ([.ref aX])).length) Slot.unset).toArray = ls at hl ⊢
  have hl : lv_has ls 2 [(0, .ref aX)] := hl
  unfold f_M_takeFound at hf
  refine lv_iconst (v := 0) hx hb d_M_takeFound_0 (by decide) ?_
  refine lv_istore_n (lv' := [(1, .int (0 : Int32)), (0, .ref aX)]) hx hb d_M_takeFound_1 rfl hl (by decide) rfl (fun ls hl => ?_)
  have lp274 : ∀ (Qx : State → Prop) (n : Nat) (v1_272 : Int32) (Xblocks_f_273 : Nat → Int32) (ws : va_W) (H : Heap) (locs : List Loc) (ls : Array Slot) (q : Int32 × (Nat → Int32)) (hf : f_M_takeFound_2 X_found Xblocks_n n v1_272 Xblocks_f_273 = some q) (hl : lv_has ls 2 [(0, .ref aX), (1, .int v1_272)]) (hP : va_P (dC, dI) classes ws H) (hD : va_D A ws) (hS : va_S A s.heap H locs) (hN_X : ws[21]? = some (aX, .inr (7, [.int X_code, .int X_side, .ref aXpicture, .ref aXhalf, .int X_many, .ref aXblocks, .int X_found, .int X_encodedBits, .ref aXencoded, .int X_fedMany, .ref aXfed, .int X_readAt, .int X_why, .int X_tried, .int X_waiting, .ref aXpile, .int X_decoded, .ref aXnews, .ref aXolds, .ref aXhalves, .ref aXds, .ref aXrs, .ref aXbest, .long X_bestError]))) (hN_Xblocks : ws[24]? = some (aXblocks, .inl (cI, Xblocks_n, .inl Xblocks_f_273))) (hw : ∀ j, j ∉ [21, 24] → ws[j]? = ws0[j]?) (kt0 : ∀ (ws : va_W) (H : Heap) (locs : List Loc) (ls : Array Slot), lv_has ls 2 [(0, .ref aX), (1, .int q.1)] → (va_P (dC, dI) classes ws H) → (va_D A ws) → (va_S A s.heap H locs) → (ws[21]? = some (aX, .inr (7, [.int X_code, .int X_side, .ref aXpicture, .ref aXhalf, .int X_many, .ref aXblocks, .int X_found, .int X_encodedBits, .ref aXencoded, .int X_fedMany, .ref aXfed, .int X_readAt, .int X_why, .int X_tried, .int X_waiting, .ref aXpile, .int X_decoded, .ref aXnews, .ref aXolds, .ref aXhalves, .ref aXds, .ref aXrs, .ref aXbest, .long X_bestError]))) → (ws[24]? = some (aXblocks, .inl (cI, Xblocks_n, .inl q.2))) → (∀ j, j ∉ [21, 24] → ws[j]? = ws0[j]?) → W p l e (headSpec w_M_takeFound rm_M_takeFound).room s m ([.ref aX] : List Value).toArray below meth c H locs 0 0 Qx (F0 m 35 ls [])), W p l e (headSpec w_M_takeFound rm_M_takeFound).room s m ([.ref aX] : List Value).toArray below meth c H locs 0 0 Qx (F0 m 2 ls []) := by
    intro Qx n
    induction n with
    | zero => intro v1_272 Xblocks_f_273 ws H locs ls q hf; cases hf
    | succ n ih =>
      intro v1_272 Xblocks_f_273 ws H locs ls q hf hl hP hD hS hN_X hN_Xblocks hw kt0
      rw [f_M_takeFound_2] at hf
      refine lv_iload_n hx hb d_M_takeFound_2 rfl (lv_at hl 1 rfl) ?_
      refine lv_bipush (v := 8) hx hb d_M_takeFound_3 (by decide) ?_
      refine lv_aload_n hx hb d_M_takeFound_5 rfl (lv_at hl 0 rfl) ?_
      refine gf_M_120 (v := .int X_found) hx hb hts hown hK hP hN_X rfl d_M_takeFound_6 ?_
      refine lv_imul hx hb d_M_takeFound_9 ?_
      refine lv_icmp_ge (tgt := 35) hx hb d_M_takeFound_10 (by decide) (fun hc => ?_) (fun hc => ?_)
      · have hf := z_t hc hf
        obtain rfl := Option.some.inj hf
        exact kt0 _ _ _ ls (lv_sub hl [0, 1] rfl) hP hD hS hN_X hN_Xblocks hw
      · have hf := z_f hc hf
        refine lv_aload_n hx hb d_M_takeFound_13 rfl (lv_at hl 0 rfl) ?_
        refine gf_M_16 (v := .ref aXblocks) hx hb hts hown hK hP hN_X rfl d_M_takeFound_14 ?_
        refine lv_iload_n hx hb d_M_takeFound_17 rfl (lv_at hl 1 rfl) ?_
        refine lv_aload_n hx hb d_M_takeFound_18 rfl (lv_at hl 0 rfl) ?_
        refine gf_M_16 (v := .ref aXblocks) hx hb hts hown hK hP hN_X rfl d_M_takeFound_19 ?_
        refine lv_sipush (v := 2048) hx hb d_M_takeFound_22 (by decide) ?_
        refine lv_iload_n hx hb d_M_takeFound_25 rfl (lv_at hl 1 rfl) ?_
        refine lv_iadd hx hb d_M_takeFound_26 ?_
        obtain ⟨hin, hf⟩ := z_no hf
        refine va_iald hx hb hK hP _ 0 hN_Xblocks rfl hin d_M_takeFound_27 ?_
        obtain ⟨hin, hf⟩ := z_no hf
        refine z_iast hx hb hK hP hD hS hN_Xblocks rfl hin d_M_takeFound_28 (fun ws H locs hP hD hS hN_Xblocks hfr => ?_)
        have hN_Xblocks : ws[24]? = some (aXblocks, .inl (cI, Xblocks_n, .inl (upd Xblocks_f_273 v1_272.toNatClampNeg (Xblocks_f_273 ((2048 : Int32) + v1_272).toNatClampNeg)))) := hN_Xblocks
        have hN_X := (hfr _ (by decide)).trans hN_X
        have hw := z_fr (by decide) hw hfr
        refine lv_iinc (v := (v1_272 + 1)) (lv' := [(1, .int (v1_272 + 1)), (0, .ref aX)]) hx hb d_M_takeFound_29 hl (k := 1) rfl rfl (by decide) rfl (fun ls hl => ?_)
        refine lv_goto (tgt := 2) hx hb d_M_takeFound_32 (by decide) ?_
        exact ih (v1_272 + 1) (upd Xblocks_f_273 v1_272.toNatClampNeg (Xblocks_f_273 ((2048 : Int32) + v1_272).toNatClampNeg)) _ _ _ ls _ hf (lv_sub hl [1, 0] rfl) hP hD hS hN_X hN_Xblocks hw kt0
  obtain ⟨q271, hc, hf⟩ := z_b hf
  refine lp274 _ FU (0 : Int32) Xblocks_f _ _ _ ls q271 hc (lv_sub hl [1, 0] rfl) hP hD hS hN_X hN_Xblocks hw (fun ws H locs ls hl hP hD hS hN_X hN_Xblocks hw => ?_)
  refine lv_aload_n hx hb d_M_takeFound_35 rfl (lv_at hl 0 rfl) ?_
  refine lv_aload_n hx hb d_M_takeFound_36 rfl (lv_at hl 0 rfl) ?_
  refine gf_M_120 (v := .int X_found) hx hb hts hown hK hP hN_X rfl d_M_takeFound_37 ?_
  refine pf_M_123 (v := .int X_found) hx hb hts hown hK hP hD hS hN_X rfl rfl (Nat.le_of_ble_eq_true rfl) d_M_takeFound_40 (fun ws H locs hP hD hS hN_X hfr => ?_)
  have hN_X : ws[21]? = some (aX, .inr (7, [.int X_code, .int X_side, .ref aXpicture, .ref aXhalf, .int X_found, .ref aXblocks, .int X_found, .int X_encodedBits, .ref aXencoded, .int X_fedMany, .ref aXfed, .int X_readAt, .int X_why, .int X_tried, .int X_waiting, .ref aXpile, .int X_decoded, .ref aXnews, .ref aXolds, .ref aXhalves, .ref aXds, .ref aXrs, .ref aXbest, .long X_bestError])) := hN_X
  have hN_Xblocks := (hfr _ (by decide)).trans hN_Xblocks
  have hw := z_fr (by decide) hw hfr
  obtain rfl := Option.some.inj hf
  exact W.vret hx hb hr (fun t ht hW => ⟨⟨ws, rfl, ⟨hN_X, hN_Xblocks, hw⟩, by rw [ht]; exact hP, va_K.moved hW.alike hK, hD⟩, hS.F ht⟩) hS.2.2 d_M_takeFound_43
