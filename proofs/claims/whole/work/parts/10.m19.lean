def f_M_take_4 (p1 : Int32) (X_fedMany : Int32) (X_why : Int32) (Xfed_n : Nat) (Xfed_f : Nat → Int32) : Nat → Int32 → Int32 → Int32 → Option ((Int32 × Int32 × Int32) ⊕ (Int32 × Int32 × Int32))
  | 0, _, _, _ => none
  | n + 1, v2, v3, X_readAt => if p1 ≤ v3 then (some (.inr (v2, v3, X_readAt))) else (if 0 ≤ X_why then (some (.inr (v2, v3, X_readAt))) else (if X_readAt = ((8 : Int32) * X_fedMany) then (some (.inl (v2, v3, X_readAt))) else ((f_M_bitAt X_readAt Xfed_n Xfed_f).bind (fun q736 => f_M_take_4 p1 X_fedMany X_why Xfed_n Xfed_f n (((2 : Int32) * v2) + q736) (v3 + 1) (X_readAt + (1 : Int32))))))
def f_M_take (x1 : Int32) (X_fedMany : Int32) (X_readAt : Int32) (X_why : Int32) (Xfed_n : Nat) (Xfed_f : Nat → Int32) : Option (Int32 × Int32 × Int32) := (f_M_take_4 x1 X_fedMany X_why Xfed_n Xfed_f FU (0 : Int32) (0 : Int32) X_readAt).bind (Sum.elim (fun a => some ((0 : Int32), a.2.2, (3 : Int32))) (fun a => some (a.1, a.2.2, X_why)))
set_option maxHeartbeats 4000000 in
set_option maxRecDepth 100000 in
theorem c_M_take (l : Launch) (dC : Nat → ClassId) (dI : Nat → Nat → Nat) (cI cL : ClassId) {ws0 : va_W} (sz : Nat) {aX aXpicture aXhalf aXblocks aXencoded aXfed aXpile aXnews aXolds aXhalves aXds aXrs aXbest : Nat} {X_code X_side X_many X_found X_encodedBits X_fedMany X_readAt X_why X_tried X_waiting X_decoded : Int32} {X_bestError : Int64} {Xfed_n : Nat} {Xfed_f : Nat → Int32} (x1 : Int32) (hN_X : zA ws0 21 (aX, .inr (7, [.int X_code, .int X_side, .ref aXpicture, .ref aXhalf, .int X_many, .ref aXblocks, .int X_found, .int X_encodedBits, .ref aXencoded, .int X_fedMany, .ref aXfed, .int X_readAt, .int X_why, .int X_tried, .int X_waiting, .ref aXpile, .int X_decoded, .ref aXnews, .ref aXolds, .ref aXhalves, .ref aXds, .ref aXrs, .ref aXbest, .long X_bestError]))) (hN_Xfed : zA ws0 26 (aXfed, .inl (cI, Xfed_n, .inl Xfed_f))) (r : Int32 × Int32 × Int32) (hf : f_M_take x1 X_fedMany X_readAt X_why Xfed_n Xfed_f = some r) : Met l y_M_take w_M_take rm_M_take (va_Pc [.ref aX, .int x1] (zM dC dI cI cL ws0 sz)) (va_Qi (fun (v : Int32) (ws' : va_W) => v = r.1 ∧ zA ws' 21 (aX, .inr (7, [.int X_code, .int X_side, .ref aXpicture, .ref aXhalf, .int X_many, .ref aXblocks, .int X_found, .int X_encodedBits, .ref aXencoded, .int X_fedMany, .ref aXfed, .int r.2.1, .int r.2.2, .int X_tried, .int X_waiting, .ref aXpile, .int X_decoded, .ref aXnews, .ref aXolds, .ref aXhalves, .ref aXds, .ref aXrs, .ref aXbest, .long X_bestError])) ∧ ∀ (j : Nat), j ∉ ([21] : List Nat) → ws'[j]? = ws0[j]?) (zQ dC dI cI cL (va_A ws0 sz)) (va_A ws0 sz)) 0 0 (va_A ws0 sz) := by
  refine Met.ofW (cc := b_M_take) (maxL := 4) (ret := some .int) (by decide) rfl ?_
  intro p e s m args below meth c s₁ B hml hv
  obtain ⟨rfl, hsz, hP, hK, hZ, hD0⟩ := hv
  have hx := B.exec
  have hb := B.bytes
  have hr := B.returns
  have hlocks := B.notSynchronized
  have hts : ∀ w ∈ BIG, w.before ([.ref aX, .int x1] : List Value).toArray s = true := fun w h => atoms_spec (ws := w_M_take) B.pre w (List.mem_cons_of_mem _ h)
  have hown : s.vm.findClass "FractalMapsModel" = some m.cls := findClass_of_methodNamed B.named
  subst hsz
  have hD := hD0.self (sz := s.heap.size)
  generalize hAe : va_A ws0 s.heap.size = A at hD ⊢
  have hA : ∀ q : Nat, s.heap.size ≤ q → A q := fun q h => by rw [← hAe]; exact Or.inr h
  have hS : va_S A s.heap s.heap [] := va_S.rf
  have hw : ∀ (j : Nat), j ∉ ([21] : List Nat) → ws0[j]? = ws0[j]? := fun _ _ => rfl
  have hl := lv_entry ([.ref aX, .int x1]) (n := 4) (Nat.le_of_ble_eq_true rfl)
  rw [lg_entry_eq]
  generalize (lg_sl ([.ref aX, .int x1]) ++ List.replicate (4 - (lg_sl ([.ref aX, .int x1])).length) Slot.unset).toArray = ls at hl ⊢
  have hl : lv_has ls 4 [(0, .ref aX), (1, .int x1)] := hl
  unfold f_M_take at hf
  refine lv_iconst (v := 0) hx hb d_M_take_0 (by decide) ?_
  refine lv_istore_n (lv' := [(2, .int (0 : Int32)), (0, .ref aX), (1, .int x1)]) hx hb d_M_take_1 rfl hl (by decide) rfl (fun ls hl => ?_)
  refine lv_iconst (v := 0) hx hb d_M_take_2 (by decide) ?_
  refine lv_istore_n (lv' := [(3, .int (0 : Int32)), (2, .int (0 : Int32)), (0, .ref aX), (1, .int x1)]) hx hb d_M_take_3 rfl hl (by decide) rfl (fun ls hl => ?_)
  have lp742 : ∀ (Qx : State → Prop) (n : Nat) (v2_739 : Int32) (v3_740 : Int32) (X_readAt_741 : Int32) (ws : va_W) (H : Heap) (locs : List Loc) (ls : Array Slot) (q : (Int32 × Int32 × Int32) ⊕ (Int32 × Int32 × Int32)) (hf : f_M_take_4 x1 X_fedMany X_why Xfed_n Xfed_f n v2_739 v3_740 X_readAt_741 = some q) (hl : lv_has ls 4 [(0, .ref aX), (1, .int x1), (2, .int v2_739), (3, .int v3_740)]) (hP : va_P (dC, dI) classes ws H) (hD : va_D A ws) (hS : va_S A s.heap H locs) (hN_X : zA ws 21 (aX, .inr (7, [.int X_code, .int X_side, .ref aXpicture, .ref aXhalf, .int X_many, .ref aXblocks, .int X_found, .int X_encodedBits, .ref aXencoded, .int X_fedMany, .ref aXfed, .int X_readAt_741, .int X_why, .int X_tried, .int X_waiting, .ref aXpile, .int X_decoded, .ref aXnews, .ref aXolds, .ref aXhalves, .ref aXds, .ref aXrs, .ref aXbest, .long X_bestError]))) (hN_Xfed : zA ws 26 (aXfed, .inl (cI, Xfed_n, .inl Xfed_f))) (hw : ∀ (j : Nat), j ∉ ([21] : List Nat) → ws[j]? = ws0[j]?) (kt0 : ∀ (a : Int32 × Int32 × Int32), q = .inl a → ∀ (ws : va_W) (H : Heap) (locs : List Loc) (ls : Array Slot), lv_has ls 4 [(0, .ref aX), (1, .int x1), (2, .int a.1), (3, .int a.2.1)] → (va_P (dC, dI) classes ws H) → (va_D A ws) → (va_S A s.heap H locs) → (zA ws 21 (aX, .inr (7, [.int X_code, .int X_side, .ref aXpicture, .ref aXhalf, .int X_many, .ref aXblocks, .int X_found, .int X_encodedBits, .ref aXencoded, .int X_fedMany, .ref aXfed, .int a.2.2, .int X_why, .int X_tried, .int X_waiting, .ref aXpile, .int X_decoded, .ref aXnews, .ref aXolds, .ref aXhalves, .ref aXds, .ref aXrs, .ref aXbest, .long X_bestError]))) → (zA ws 26 (aXfed, .inl (cI, Xfed_n, .inl Xfed_f))) → (∀ (j : Nat), j ∉ ([21] : List Nat) → ws[j]? = ws0[j]?) → W p l e (headSpec w_M_take rm_M_take).room s m ([.ref aX, .int x1] : List Value).toArray below meth c H locs 0 0 Qx (F0 m 30 ls [])) (kt1 : ∀ (a : Int32 × Int32 × Int32), q = .inr (a) → ∀ (ws : va_W) (H : Heap) (locs : List Loc) (ls : Array Slot), lv_has ls 4 [(0, .ref aX), (1, .int x1), (2, .int a.1), (3, .int a.2.1)] → (va_P (dC, dI) classes ws H) → (va_D A ws) → (va_S A s.heap H locs) → (zA ws 21 (aX, .inr (7, [.int X_code, .int X_side, .ref aXpicture, .ref aXhalf, .int X_many, .ref aXblocks, .int X_found, .int X_encodedBits, .ref aXencoded, .int X_fedMany, .ref aXfed, .int a.2.2, .int X_why, .int X_tried, .int X_waiting, .ref aXpile, .int X_decoded, .ref aXnews, .ref aXolds, .ref aXhalves, .ref aXds, .ref aXrs, .ref aXbest, .long X_bestError]))) → (zA ws 26 (aXfed, .inl (cI, Xfed_n, .inl Xfed_f))) → (∀ (j : Nat), j ∉ ([21] : List Nat) → ws[j]? = ws0[j]?) → W p l e (headSpec w_M_take rm_M_take).room s m ([.ref aX, .int x1] : List Value).toArray below meth c H locs 0 0 Qx (F0 m 66 ls [])), W p l e (headSpec w_M_take rm_M_take).room s m ([.ref aX, .int x1] : List Value).toArray below meth c H locs 0 0 Qx (F0 m 4 ls []) := by
    intro Qx n
    induction n with
    | zero => intro v2_739 v3_740 X_readAt_741 ws H locs ls q hf; cases hf
    | succ n ih =>
      intro v2_739 v3_740 X_readAt_741 ws H locs ls q hf hl hP hD hS hN_X hN_Xfed hw kt0 kt1
      rw [f_M_take_4] at hf
      refine lv_iload_n hx hb d_M_take_4 rfl (lv_at hl 3 rfl) ?_
      refine lv_iload_n hx hb d_M_take_5 rfl (lv_at hl 1 rfl) ?_
      refine lv_icmp_ge (tgt := 66) hx hb d_M_take_6 (by decide) (fun hc => ?_) (fun hc => ?_)
      · have hf := z_t hc hf
        obtain rfl := Option.some.inj hf
        exact kt1 _ rfl _ _ _ ls (lv_sub hl [0, 1, 2, 3] rfl) hP hD hS hN_X hN_Xfed hw
      · have hf := z_f hc hf
        refine lv_aload_n hx hb d_M_take_9 rfl (lv_at hl 0 rfl) ?_
        refine gf_M_166 (v := .int X_why) hx hb hts hown hK hP hN_X rfl d_M_take_10 ?_
        refine lv_if_ge (tgt := 66) hx hb d_M_take_13 (by decide) (fun hc => ?_) (fun hc => ?_)
        · have hf := z_t hc hf
          obtain rfl := Option.some.inj hf
          exact kt1 _ rfl _ _ _ ls (lv_sub hl [0, 1, 2, 3] rfl) hP hD hS hN_X hN_Xfed hw
        · have hf := z_f hc hf
          refine lv_aload_n hx hb d_M_take_16 rfl (lv_at hl 0 rfl) ?_
          refine gf_M_169 (v := .int X_readAt_741) hx hb hts hown hK hP hN_X rfl d_M_take_17 ?_
          refine lv_bipush (v := 8) hx hb d_M_take_20 (by decide) ?_
          refine lv_aload_n hx hb d_M_take_22 rfl (lv_at hl 0 rfl) ?_
          refine gf_M_163 (v := .int X_fedMany) hx hb hts hown hK hP hN_X rfl d_M_take_23 ?_
          refine lv_imul hx hb d_M_take_26 ?_
          refine lv_icmp_ne (tgt := 37) hx hb d_M_take_27 (by decide) (fun hc => ?_) (fun hc => ?_)
          · have hf := z_f hc hf
            refine lv_iconst (v := 2) hx hb d_M_take_37 (by decide) ?_
            refine lv_iload_n hx hb d_M_take_38 rfl (lv_at hl 2 rfl) ?_
            refine lv_imul hx hb d_M_take_39 ?_
            refine lv_aload_n hx hb d_M_take_40 rfl (lv_at hl 0 rfl) ?_
            refine lv_aload_n hx hb d_M_take_41 rfl (lv_at hl 0 rfl) ?_
            refine gf_M_169 (v := .int X_readAt_741) hx hb hts hown hK hP hN_X rfl d_M_take_42 ?_
            obtain ⟨q743, hc, hf⟩ := z_b hf
            refine vp_callSi (z_cr (va_runV (As := [.int X_readAt_741]) (rest := [.int ((2 : Int32) * v2_739)]) ⟨hx, hb, hml, hown, hts⟩ (c_M_bitAt l dC dI cI cL X_readAt_741 hN_X hN_Xfed q743 hc) (cw_M_172 hts ⟨Nat.le_of_ble_eq_true rfl, Nat.le_of_ble_eq_true rfl⟩) ⟨zbR, va_recv hK hP (ci := 7) rfl hN_X, (zpR hP hK hZ)⟩ rfl rfl hl.1 rfl (lv_room (Nat.le_of_ble_eq_true rfl)) d_M_take_45 ⟨Nat.zero_le _, Nat.zero_le _⟩)) (fun r744 hv => ?_)
            have hv := hv.symm
            subst hv
            refine lv_iadd hx hb d_M_take_48 ?_
            refine lv_istore_n (lv' := [(2, .int (((2 : Int32) * v2_739) + q743)), (0, .ref aX), (1, .int x1), (3, .int v3_740)]) hx hb d_M_take_49 rfl hl (by decide) rfl (fun ls hl => ?_)
            refine lv_aload_n hx hb d_M_take_50 rfl (lv_at hl 1 rfl) ?_
            refine lv_dup hx hb d_M_take_51 rfl ?_
            refine gf_M_169 (v := .int X_readAt_741) hx hb hts hown hK hP hN_X rfl d_M_take_52 ?_
            refine lv_iconst (v := 1) hx hb d_M_take_55 (by decide) ?_
            refine lv_iadd hx hb d_M_take_56 ?_
            refine pf_M_169 (v := .int (X_readAt_741 + (1 : Int32))) hx hb hts hown hK hP hD hS hN_X rfl rfl (Nat.le_of_ble_eq_true rfl) d_M_take_57 (fun ws H locs hP hD hS hN_X hfr => ?_)
            have hN_X : zA ws 21 (aX, .inr (7, [.int X_code, .int X_side, .ref aXpicture, .ref aXhalf, .int X_many, .ref aXblocks, .int X_found, .int X_encodedBits, .ref aXencoded, .int X_fedMany, .ref aXfed, .int (X_readAt_741 + (1 : Int32)), .int X_why, .int X_tried, .int X_waiting, .ref aXpile, .int X_decoded, .ref aXnews, .ref aXolds, .ref aXhalves, .ref aXds, .ref aXrs, .ref aXbest, .long X_bestError])) := hN_X
            have hN_Xfed := (hfr _ (by decide)).trans hN_Xfed
            have hw := z_fr (by decide) hw hfr
            refine lv_iinc (v := (v3_740 + 1)) (lv' := [(3, .int (v3_740 + 1)), (2, .int (((2 : Int32) * v2_739) + q743)), (0, .ref aX), (1, .int x1)]) hx hb d_M_take_60 hl (k := 3) rfl rfl (by decide) rfl (fun ls hl => ?_)
            refine lv_goto (tgt := 4) hx hb d_M_take_63 (by decide) ?_
            exact ih (((2 : Int32) * v2_739) + q743) (v3_740 + 1) (X_readAt_741 + (1 : Int32)) _ _ _ ls _ hf (lv_sub hl [2, 3, 1, 0] rfl) hP hD hS hN_X hN_Xfed hw kt0 kt1
          · have hf := z_t hc hf
            obtain rfl := Option.some.inj hf
            exact kt0 _ rfl _ _ _ ls (lv_sub hl [0, 1, 2, 3] rfl) hP hD hS hN_X hN_Xfed hw
  obtain ⟨q738, hc, hf⟩ := z_b hf
  refine lp742 _ FU (0 : Int32) (0 : Int32) X_readAt _ _ _ ls q738 hc (lv_sub hl [2, 3, 1, 0] rfl) hP hD hS hN_X hN_Xfed hw (fun a ea ws H locs ls hl hP hD hS hN_X hN_Xfed hw => ?_) (fun a ea ws H locs ls hl hP hD hS hN_X hN_Xfed hw => ?_)
  · subst ea
    have hf := z_sl hf
    refine lv_aload_n hx hb d_M_take_30 rfl (lv_at hl 0 rfl) ?_
    refine lv_iconst (v := 3) hx hb d_M_take_31 (by decide) ?_
    refine pf_M_166 (v := .int (3 : Int32)) hx hb hts hown hK hP hD hS hN_X rfl rfl (Nat.le_of_ble_eq_true rfl) d_M_take_32 (fun ws H locs hP hD hS hN_X hfr => ?_)
    have hN_X : zA ws 21 (aX, .inr (7, [.int X_code, .int X_side, .ref aXpicture, .ref aXhalf, .int X_many, .ref aXblocks, .int X_found, .int X_encodedBits, .ref aXencoded, .int X_fedMany, .ref aXfed, .int a.2.2, .int (3 : Int32), .int X_tried, .int X_waiting, .ref aXpile, .int X_decoded, .ref aXnews, .ref aXolds, .ref aXhalves, .ref aXds, .ref aXrs, .ref aXbest, .long X_bestError])) := hN_X
    have hN_Xfed := (hfr _ (by decide)).trans hN_Xfed
    have hw := z_fr (by decide) hw hfr
    refine lv_iconst (v := 0) hx hb d_M_take_35 (by decide) ?_
    obtain rfl := Option.some.inj hf
    exact W.iret hx hb hr (fun t ht hW => ⟨⟨_, ws, rfl, ⟨rfl, hN_X, hw⟩, by rw [ht]; exact hP, va_K.moved hW.alike hK, hD⟩, hS.F ht⟩) hS.2.2 d_M_take_36
  · subst ea
    have hf := z_sr hf
    refine lv_iload_n hx hb d_M_take_66 rfl (lv_at hl 2 rfl) ?_
    obtain rfl := Option.some.inj hf
    exact W.iret hx hb hr (fun t ht hW => ⟨⟨_, ws, rfl, ⟨rfl, hN_X, hw⟩, by rw [ht]; exact hP, va_K.moved hW.alike hK, hD⟩, hS.F ht⟩) hS.2.2 d_M_take_67
def f_M_pileUp (x1 : Int32) (x2 : Int32) (x3 : Int32) (X_waiting : Int32) (Xpile_n : Nat) (Xpile_f : Nat → Int32) : Option (Int32 × (Nat → Int32)) := if ((3 : Int32) * X_waiting) < 0 ∨ Xpile_n ≤ ((3 : Int32) * X_waiting).toNatClampNeg then none else (if (((3 : Int32) * X_waiting) + (1 : Int32)) < 0 ∨ Xpile_n ≤ (((3 : Int32) * X_waiting) + (1 : Int32)).toNatClampNeg then none else (if (((3 : Int32) * X_waiting) + (2 : Int32)) < 0 ∨ Xpile_n ≤ (((3 : Int32) * X_waiting) + (2 : Int32)).toNatClampNeg then none else (some ((X_waiting + (1 : Int32)), (upd (upd (upd Xpile_f ((3 : Int32) * X_waiting).toNatClampNeg x1) (((3 : Int32) * X_waiting) + (1 : Int32)).toNatClampNeg x2) (((3 : Int32) * X_waiting) + (2 : Int32)).toNatClampNeg x3)))))
set_option maxHeartbeats 4000000 in
set_option maxRecDepth 100000 in
theorem c_M_pileUp (l : Launch) (dC : Nat → ClassId) (dI : Nat → Nat → Nat) (cI cL : ClassId) {ws0 : va_W} (sz : Nat) {aX aXpicture aXhalf aXblocks aXencoded aXfed aXpile aXnews aXolds aXhalves aXds aXrs aXbest : Nat} {X_code X_side X_many X_found X_encodedBits X_fedMany X_readAt X_why X_tried X_waiting X_decoded : Int32} {X_bestError : Int64} {Xpile_n : Nat} {Xpile_f : Nat → Int32} (x1 : Int32) (x2 : Int32) (x3 : Int32) (hN_X : zA ws0 21 (aX, .inr (7, [.int X_code, .int X_side, .ref aXpicture, .ref aXhalf, .int X_many, .ref aXblocks, .int X_found, .int X_encodedBits, .ref aXencoded, .int X_fedMany, .ref aXfed, .int X_readAt, .int X_why, .int X_tried, .int X_waiting, .ref aXpile, .int X_decoded, .ref aXnews, .ref aXolds, .ref aXhalves, .ref aXds, .ref aXrs, .ref aXbest, .long X_bestError]))) (hN_Xpile : zA ws0 27 (aXpile, .inl (cI, Xpile_n, .inl Xpile_f))) (r : Int32 × (Nat → Int32)) (hf : f_M_pileUp x1 x2 x3 X_waiting Xpile_n Xpile_f = some r) : Met l y_M_pileUp w_M_pileUp rm_M_pileUp (va_Pc [.ref aX, .int x1, .int x2, .int x3] (zM dC dI cI cL ws0 sz)) (va_Qv (fun ws' : va_W => zA ws' 21 (aX, .inr (7, [.int X_code, .int X_side, .ref aXpicture, .ref aXhalf, .int X_many, .ref aXblocks, .int X_found, .int X_encodedBits, .ref aXencoded, .int X_fedMany, .ref aXfed, .int X_readAt, .int X_why, .int X_tried, .int r.1, .ref aXpile, .int X_decoded, .ref aXnews, .ref aXolds, .ref aXhalves, .ref aXds, .ref aXrs, .ref aXbest, .long X_bestError])) ∧ zA ws' 27 (aXpile, .inl (cI, Xpile_n, .inl r.2)) ∧ ∀ (j : Nat), j ∉ ([21, 27] : List Nat) → ws'[j]? = ws0[j]?) (zQ dC dI cI cL (va_A ws0 sz)) (va_A ws0 sz)) 0 0 (va_A ws0 sz) := by
  refine Met.ofW (cc := b_M_pileUp) (maxL := 4) (ret := none) (by decide) rfl ?_
  intro p e s m args below meth c s₁ B hml hv
  obtain ⟨rfl, hsz, hP, hK, hZ, hD0⟩ := hv
  have hx := B.exec
  have hb := B.bytes
  have hr := B.returns
  have hlocks := B.notSynchronized
  have hts : ∀ w ∈ BIG, w.before ([.ref aX, .int x1, .int x2, .int x3] : List Value).toArray s = true := fun w h => atoms_spec (ws := w_M_pileUp) B.pre w (List.mem_cons_of_mem _ h)
  have hown : s.vm.findClass "FractalMapsModel" = some m.cls := findClass_of_methodNamed B.named
  subst hsz
  have hD := hD0.self (sz := s.heap.size)
  generalize hAe : va_A ws0 s.heap.size = A at hD ⊢
  have hA : ∀ q : Nat, s.heap.size ≤ q → A q := fun q h => by rw [← hAe]; exact Or.inr h
  have hS : va_S A s.heap s.heap [] := va_S.rf
  have hw : ∀ (j : Nat), j ∉ ([21, 27] : List Nat) → ws0[j]? = ws0[j]? := fun _ _ => rfl
  have hl := lv_entry ([.ref aX, .int x1, .int x2, .int x3]) (n := 4) (Nat.le_of_ble_eq_true rfl)
  rw [lg_entry_eq]
  generalize (lg_sl ([.ref aX, .int x1, .int x2, .int x3]) ++ List.replicate (4 - (lg_sl ([.ref aX, .int x1, .int x2, .int x3])).length) Slot.unset).toArray = ls at hl ⊢
  have hl : lv_has ls 4 [(0, .ref aX), (1, .int x1), (2, .int x2), (3, .int x3)] := hl
  unfold f_M_pileUp at hf
  refine lv_aload_n hx hb d_M_pileUp_0 rfl (lv_at hl 0 rfl) ?_
  refine gf_M_25 (v := .ref aXpile) hx hb hts hown hK hP hN_X rfl d_M_pileUp_1 ?_
  refine lv_iconst (v := 3) hx hb d_M_pileUp_4 (by decide) ?_
  refine lv_aload_n hx hb d_M_pileUp_5 rfl (lv_at hl 0 rfl) ?_
  refine gf_M_114 (v := .int X_waiting) hx hb hts hown hK hP hN_X rfl d_M_pileUp_6 ?_
  refine lv_imul hx hb d_M_pileUp_9 ?_
  refine lv_iload_n hx hb d_M_pileUp_10 rfl (lv_at hl 1 rfl) ?_
  obtain ⟨hin, hf⟩ := z_no hf
  refine z_iast hx hb hK hP hD hS hN_Xpile rfl hin d_M_pileUp_11 (fun ws H locs hP hD hS hN_Xpile hfr => ?_)
  have hN_Xpile : zA ws 27 (aXpile, .inl (cI, Xpile_n, .inl (upd Xpile_f ((3 : Int32) * X_waiting).toNatClampNeg x1))) := hN_Xpile
  have hN_X := (hfr _ (by decide)).trans hN_X
  have hw := z_fr (by decide) hw hfr
  refine lv_aload_n hx hb d_M_pileUp_12 rfl (lv_at hl 0 rfl) ?_
  refine gf_M_25 (v := .ref aXpile) hx hb hts hown hK hP hN_X rfl d_M_pileUp_13 ?_
  refine lv_iconst (v := 3) hx hb d_M_pileUp_16 (by decide) ?_
  refine lv_aload_n hx hb d_M_pileUp_17 rfl (lv_at hl 0 rfl) ?_
  refine gf_M_114 (v := .int X_waiting) hx hb hts hown hK hP hN_X rfl d_M_pileUp_18 ?_
  refine lv_imul hx hb d_M_pileUp_21 ?_
  refine lv_iconst (v := 1) hx hb d_M_pileUp_22 (by decide) ?_
  refine lv_iadd hx hb d_M_pileUp_23 ?_
  refine lv_iload_n hx hb d_M_pileUp_24 rfl (lv_at hl 2 rfl) ?_
  obtain ⟨hin, hf⟩ := z_no hf
  refine z_iast hx hb hK hP hD hS hN_Xpile rfl hin d_M_pileUp_25 (fun ws H locs hP hD hS hN_Xpile hfr => ?_)
  have hN_Xpile : zA ws 27 (aXpile, .inl (cI, Xpile_n, .inl (upd (upd Xpile_f ((3 : Int32) * X_waiting).toNatClampNeg x1) (((3 : Int32) * X_waiting) + (1 : Int32)).toNatClampNeg x2))) := hN_Xpile
  have hN_X := (hfr _ (by decide)).trans hN_X
  have hw := z_fr (by decide) hw hfr
  refine lv_aload_n hx hb d_M_pileUp_26 rfl (lv_at hl 0 rfl) ?_
  refine gf_M_25 (v := .ref aXpile) hx hb hts hown hK hP hN_X rfl d_M_pileUp_27 ?_
  refine lv_iconst (v := 3) hx hb d_M_pileUp_30 (by decide) ?_
  refine lv_aload_n hx hb d_M_pileUp_31 rfl (lv_at hl 0 rfl) ?_
  refine gf_M_114 (v := .int X_waiting) hx hb hts hown hK hP hN_X rfl d_M_pileUp_32 ?_
  refine lv_imul hx hb d_M_pileUp_35 ?_
  refine lv_iconst (v := 2) hx hb d_M_pileUp_36 (by decide) ?_
  refine lv_iadd hx hb d_M_pileUp_37 ?_
  refine lv_iload_n hx hb d_M_pileUp_38 rfl (lv_at hl 3 rfl) ?_
  obtain ⟨hin, hf⟩ := z_no hf
  refine z_iast hx hb hK hP hD hS hN_Xpile rfl hin d_M_pileUp_39 (fun ws H locs hP hD hS hN_Xpile hfr => ?_)
  have hN_Xpile : zA ws 27 (aXpile, .inl (cI, Xpile_n, .inl (upd (upd (upd Xpile_f ((3 : Int32) * X_waiting).toNatClampNeg x1) (((3 : Int32) * X_waiting) + (1 : Int32)).toNatClampNeg x2) (((3 : Int32) * X_waiting) + (2 : Int32)).toNatClampNeg x3))) := hN_Xpile
  have hN_X := (hfr _ (by decide)).trans hN_X
  have hw := z_fr (by decide) hw hfr
  refine lv_aload_n hx hb d_M_pileUp_40 rfl (lv_at hl 0 rfl) ?_
  refine lv_dup hx hb d_M_pileUp_41 rfl ?_
  refine gf_M_114 (v := .int X_waiting) hx hb hts hown hK hP hN_X rfl d_M_pileUp_42 ?_
  refine lv_iconst (v := 1) hx hb d_M_pileUp_45 (by decide) ?_
  refine lv_iadd hx hb d_M_pileUp_46 ?_
  refine pf_M_114 (v := .int (X_waiting + (1 : Int32))) hx hb hts hown hK hP hD hS hN_X rfl rfl (Nat.le_of_ble_eq_true rfl) d_M_pileUp_47 (fun ws H locs hP hD hS hN_X hfr => ?_)
  have hN_X : zA ws 21 (aX, .inr (7, [.int X_code, .int X_side, .ref aXpicture, .ref aXhalf, .int X_many, .ref aXblocks, .int X_found, .int X_encodedBits, .ref aXencoded, .int X_fedMany, .ref aXfed, .int X_readAt, .int X_why, .int X_tried, .int (X_waiting + (1 : Int32)), .ref aXpile, .int X_decoded, .ref aXnews, .ref aXolds, .ref aXhalves, .ref aXds, .ref aXrs, .ref aXbest, .long X_bestError])) := hN_X
  have hN_Xpile := (hfr _ (by decide)).trans hN_Xpile
  have hw := z_fr (by decide) hw hfr
  obtain rfl := Option.some.inj hf
  exact W.vret hx hb hr (fun t ht hW => ⟨⟨ws, rfl, ⟨hN_X, hN_Xpile, hw⟩, by rw [ht]; exact hP, va_K.moved hW.alike hK, hD⟩, hS.F ht⟩) hS.2.2 d_M_pileUp_50
def f_M_pileQuarters (x1 : Int32) (x2 : Int32) (x3 : Int32) (X_waiting : Int32) (Xpile_n : Nat) (Xpile_f : Nat → Int32) : Option (Int32 × (Nat → Int32)) := (f_M_pileUp (x1 + (x3 / (2 : Int32))) (x2 + (x3 / (2 : Int32))) (x3 / (2 : Int32)) X_waiting Xpile_n Xpile_f).bind (fun q745 => (f_M_pileUp x1 (x2 + (x3 / (2 : Int32))) (x3 / (2 : Int32)) q745.1 Xpile_n q745.2).bind (fun q746 => (f_M_pileUp (x1 + (x3 / (2 : Int32))) x2 (x3 / (2 : Int32)) q746.1 Xpile_n q746.2).bind (fun q747 => (f_M_pileUp x1 x2 (x3 / (2 : Int32)) q747.1 Xpile_n q747.2).bind (fun q748 => some (q748.1, q748.2)))))
set_option maxHeartbeats 4000000 in
set_option maxRecDepth 100000 in
theorem c_M_pileQuarters (l : Launch) (dC : Nat → ClassId) (dI : Nat → Nat → Nat) (cI cL : ClassId) {ws0 : va_W} (sz : Nat) {aX aXpicture aXhalf aXblocks aXencoded aXfed aXpile aXnews aXolds aXhalves aXds aXrs aXbest : Nat} {X_code X_side X_many X_found X_encodedBits X_fedMany X_readAt X_why X_tried X_waiting X_decoded : Int32} {X_bestError : Int64} {Xpile_n : Nat} {Xpile_f : Nat → Int32} (x1 : Int32) (x2 : Int32) (x3 : Int32) (hN_X : zA ws0 21 (aX, .inr (7, [.int X_code, .int X_side, .ref aXpicture, .ref aXhalf, .int X_many, .ref aXblocks, .int X_found, .int X_encodedBits, .ref aXencoded, .int X_fedMany, .ref aXfed, .int X_readAt, .int X_why, .int X_tried, .int X_waiting, .ref aXpile, .int X_decoded, .ref aXnews, .ref aXolds, .ref aXhalves, .ref aXds, .ref aXrs, .ref aXbest, .long X_bestError]))) (hN_Xpile : zA ws0 27 (aXpile, .inl (cI, Xpile_n, .inl Xpile_f))) (r : Int32 × (Nat → Int32)) (hf : f_M_pileQuarters x1 x2 x3 X_waiting Xpile_n Xpile_f = some r) : Met l y_M_pileQuarters w_M_pileQuarters rm_M_pileQuarters (va_Pc [.ref aX, .int x1, .int x2, .int x3] (zM dC dI cI cL ws0 sz)) (va_Qv (fun ws' : va_W => zA ws' 21 (aX, .inr (7, [.int X_code, .int X_side, .ref aXpicture, .ref aXhalf, .int X_many, .ref aXblocks, .int X_found, .int X_encodedBits, .ref aXencoded, .int X_fedMany, .ref aXfed, .int X_readAt, .int X_why, .int X_tried, .int r.1, .ref aXpile, .int X_decoded, .ref aXnews, .ref aXolds, .ref aXhalves, .ref aXds, .ref aXrs, .ref aXbest, .long X_bestError])) ∧ zA ws' 27 (aXpile, .inl (cI, Xpile_n, .inl r.2)) ∧ ∀ (j : Nat), j ∉ ([21, 27] : List Nat) → ws'[j]? = ws0[j]?) (zQ dC dI cI cL (va_A ws0 sz)) (va_A ws0 sz)) 0 0 (va_A ws0 sz) := by
  refine Met.ofW (cc := b_M_pileQuarters) (maxL := 5) (ret := none) (by decide) rfl ?_
  intro p e s m args below meth c s₁ B hml hv
  obtain ⟨rfl, hsz, hP, hK, hZ, hD0⟩ := hv
  have hx := B.exec
  have hb := B.bytes
  have hr := B.returns
  have hlocks := B.notSynchronized
  have hts : ∀ w ∈ BIG, w.before ([.ref aX, .int x1, .int x2, .int x3] : List Value).toArray s = true := fun w h => atoms_spec (ws := w_M_pileQuarters) B.pre w (List.mem_cons_of_mem _ h)
  have hown : s.vm.findClass "FractalMapsModel" = some m.cls := findClass_of_methodNamed B.named
  subst hsz
  have hD := hD0.self (sz := s.heap.size)
  generalize hAe : va_A ws0 s.heap.size = A at hD ⊢
  have hA : ∀ q : Nat, s.heap.size ≤ q → A q := fun q h => by rw [← hAe]; exact Or.inr h
  have hS : va_S A s.heap s.heap [] := va_S.rf
  have hw : ∀ (j : Nat), j ∉ ([21, 27] : List Nat) → ws0[j]? = ws0[j]? := fun _ _ => rfl
  have hl := lv_entry ([.ref aX, .int x1, .int x2, .int x3]) (n := 5) (Nat.le_of_ble_eq_true rfl)
  rw [lg_entry_eq]
  generalize (lg_sl ([.ref aX, .int x1, .int x2, .int x3]) ++ List.replicate (5 - (lg_sl ([.ref aX, .int x1, .int x2, .int x3])).length) Slot.unset).toArray = ls at hl ⊢
  have hl : lv_has ls 5 [(0, .ref aX), (1, .int x1), (2, .int x2), (3, .int x3)] := hl
  unfold f_M_pileQuarters at hf
  refine lv_iload_n hx hb d_M_pileQuarters_0 rfl (lv_at hl 3 rfl) ?_
  refine lv_iconst (v := 2) hx hb d_M_pileQuarters_1 (by decide) ?_
  refine lv_idiv hx hb d_M_pileQuarters_2 (by decide) ?_
  refine lv_istore (lv' := [(4, .int (x3 / (2 : Int32))), (0, .ref aX), (1, .int x1), (2, .int x2), (3, .int x3)]) hx hb d_M_pileQuarters_3 hl (by decide) rfl (fun ls hl => ?_)
  refine lv_aload_n hx hb d_M_pileQuarters_5 rfl (lv_at hl 1 rfl) ?_
  refine lv_iload_n hx hb d_M_pileQuarters_6 rfl (lv_at hl 2 rfl) ?_
  refine lv_iload hx hb d_M_pileQuarters_7 (lv_at hl 0 rfl) ?_
  refine lv_iadd hx hb d_M_pileQuarters_9 ?_
  refine lv_iload_n hx hb d_M_pileQuarters_10 rfl (lv_at hl 3 rfl) ?_
  refine lv_iload hx hb d_M_pileQuarters_11 (lv_at hl 0 rfl) ?_
  refine lv_iadd hx hb d_M_pileQuarters_13 ?_
  refine lv_iload hx hb d_M_pileQuarters_14 (lv_at hl 0 rfl) ?_
  obtain ⟨q745, hc, hf⟩ := z_b hf
  have hFc := z_free hD hS hA
  refine va_callv (va_runV (As := [.int (x1 + (x3 / (2 : Int32))), .int (x2 + (x3 / (2 : Int32))), .int (x3 / (2 : Int32))]) (rest := []) ⟨hx, hb, hml, hown, hts⟩ (c_M_pileUp l dC dI cI cL _ (x1 + (x3 / (2 : Int32))) (x2 + (x3 / (2 : Int32))) (x3 / (2 : Int32)) hN_X hN_Xpile q745 hc) (cw_M_117 hts ⟨Nat.le_of_ble_eq_true rfl, Nat.le_of_ble_eq_true rfl⟩) ⟨zbM, va_recv hK hP (ci := 7) rfl hN_X, (zpM hP hK hZ hD)⟩ rfl rfl hl.1 rfl (lv_room (Nat.le_of_ble_eq_true rfl)) d_M_pileQuarters_16 ⟨Nat.zero_le _, Nat.zero_le _⟩) hS (fun q _ h => hFc q h) hFc (fun ws t H locs ht hvm hu hB hz1 hk1 hS => ?_)
  obtain ⟨hN_X, hN_Xpile, hfr⟩ := hu
  obtain ⟨hP, -, hD1⟩ := hB
  rw [ht] at hP
  have hD := hD1.weaken (fun _ _ _ h => hFc _ h)
  have hN_X : zA ws 21 (aX, .inr (7, [.int X_code, .int X_side, .ref aXpicture, .ref aXhalf, .int X_many, .ref aXblocks, .int X_found, .int X_encodedBits, .ref aXencoded, .int X_fedMany, .ref aXfed, .int X_readAt, .int X_why, .int X_tried, .int q745.1, .ref aXpile, .int X_decoded, .ref aXnews, .ref aXolds, .ref aXhalves, .ref aXds, .ref aXrs, .ref aXbest, .long X_bestError])) := hN_X
  have hN_Xpile : zA ws 27 (aXpile, .inl (cI, Xpile_n, .inl q745.2)) := hN_Xpile
  have hw := z_frC (by decide) hw hfr
  refine lv_aload_n hx hb d_M_pileQuarters_19 rfl (lv_at hl 1 rfl) ?_
  refine lv_iload_n hx hb d_M_pileQuarters_20 rfl (lv_at hl 2 rfl) ?_
  refine lv_iload_n hx hb d_M_pileQuarters_21 rfl (lv_at hl 3 rfl) ?_
  refine lv_iload hx hb d_M_pileQuarters_22 (lv_at hl 0 rfl) ?_
  refine lv_iadd hx hb d_M_pileQuarters_24 ?_
  refine lv_iload hx hb d_M_pileQuarters_25 (lv_at hl 0 rfl) ?_
  obtain ⟨q746, hc, hf⟩ := z_b hf
  have hFc := z_free hD hS hA
  refine va_callv (va_runV (As := [.int x1, .int (x2 + (x3 / (2 : Int32))), .int (x3 / (2 : Int32))]) (rest := []) ⟨hx, hb, hml, hown, hts⟩ (c_M_pileUp l dC dI cI cL _ x1 (x2 + (x3 / (2 : Int32))) (x3 / (2 : Int32)) hN_X hN_Xpile q746 hc) (cw_M_117 hts ⟨Nat.le_of_ble_eq_true rfl, Nat.le_of_ble_eq_true rfl⟩) ⟨zbM, va_recv hK hP (ci := 7) rfl hN_X, (zpM hP hK hZ hD)⟩ rfl rfl hl.1 rfl (lv_room (Nat.le_of_ble_eq_true rfl)) d_M_pileQuarters_27 ⟨Nat.zero_le _, Nat.zero_le _⟩) hS (fun q _ h => hFc q h) hFc (fun ws t H locs ht hvm hu hB hz1 hk1 hS => ?_)
  obtain ⟨hN_X, hN_Xpile, hfr⟩ := hu
  obtain ⟨hP, -, hD1⟩ := hB
  rw [ht] at hP
  have hD := hD1.weaken (fun _ _ _ h => hFc _ h)
  have hN_X : zA ws 21 (aX, .inr (7, [.int X_code, .int X_side, .ref aXpicture, .ref aXhalf, .int X_many, .ref aXblocks, .int X_found, .int X_encodedBits, .ref aXencoded, .int X_fedMany, .ref aXfed, .int X_readAt, .int X_why, .int X_tried, .int q746.1, .ref aXpile, .int X_decoded, .ref aXnews, .ref aXolds, .ref aXhalves, .ref aXds, .ref aXrs, .ref aXbest, .long X_bestError])) := hN_X
  have hN_Xpile : zA ws 27 (aXpile, .inl (cI, Xpile_n, .inl q746.2)) := hN_Xpile
  have hw := z_frC (by decide) hw hfr
  refine lv_aload_n hx hb d_M_pileQuarters_30 rfl (lv_at hl 1 rfl) ?_
  refine lv_iload_n hx hb d_M_pileQuarters_31 rfl (lv_at hl 2 rfl) ?_
  refine lv_iload hx hb d_M_pileQuarters_32 (lv_at hl 0 rfl) ?_
  refine lv_iadd hx hb d_M_pileQuarters_34 ?_
  refine lv_iload_n hx hb d_M_pileQuarters_35 rfl (lv_at hl 3 rfl) ?_
  refine lv_iload hx hb d_M_pileQuarters_36 (lv_at hl 0 rfl) ?_
  obtain ⟨q747, hc, hf⟩ := z_b hf
  have hFc := z_free hD hS hA
  refine va_callv (va_runV (As := [.int (x1 + (x3 / (2 : Int32))), .int x2, .int (x3 / (2 : Int32))]) (rest := []) ⟨hx, hb, hml, hown, hts⟩ (c_M_pileUp l dC dI cI cL _ (x1 + (x3 / (2 : Int32))) x2 (x3 / (2 : Int32)) hN_X hN_Xpile q747 hc) (cw_M_117 hts ⟨Nat.le_of_ble_eq_true rfl, Nat.le_of_ble_eq_true rfl⟩) ⟨zbM, va_recv hK hP (ci := 7) rfl hN_X, (zpM hP hK hZ hD)⟩ rfl rfl hl.1 rfl (lv_room (Nat.le_of_ble_eq_true rfl)) d_M_pileQuarters_38 ⟨Nat.zero_le _, Nat.zero_le _⟩) hS (fun q _ h => hFc q h) hFc (fun ws t H locs ht hvm hu hB hz1 hk1 hS => ?_)
  obtain ⟨hN_X, hN_Xpile, hfr⟩ := hu
  obtain ⟨hP, -, hD1⟩ := hB
  rw [ht] at hP
  have hD := hD1.weaken (fun _ _ _ h => hFc _ h)
  have hN_X : zA ws 21 (aX, .inr (7, [.int X_code, .int X_side, .ref aXpicture, .ref aXhalf, .int X_many, .ref aXblocks, .int X_found, .int X_encodedBits, .ref aXencoded, .int X_fedMany, .ref aXfed, .int X_readAt, .int X_why, .int X_tried, .int q747.1, .ref aXpile, .int X_decoded, .ref aXnews, .ref aXolds, .ref aXhalves, .ref aXds, .ref aXrs, .ref aXbest, .long X_bestError])) := hN_X
  have hN_Xpile : zA ws 27 (aXpile, .inl (cI, Xpile_n, .inl q747.2)) := hN_Xpile
  have hw := z_frC (by decide) hw hfr
  refine lv_aload_n hx hb d_M_pileQuarters_41 rfl (lv_at hl 1 rfl) ?_
  refine lv_iload_n hx hb d_M_pileQuarters_42 rfl (lv_at hl 2 rfl) ?_
  refine lv_iload_n hx hb d_M_pileQuarters_43 rfl (lv_at hl 3 rfl) ?_
  refine lv_iload hx hb d_M_pileQuarters_44 (lv_at hl 0 rfl) ?_
  obtain ⟨q748, hc, hf⟩ := z_b hf
  have hFc := z_free hD hS hA
  refine va_callv (va_runV (As := [.int x1, .int x2, .int (x3 / (2 : Int32))]) (rest := []) ⟨hx, hb, hml, hown, hts⟩ (c_M_pileUp l dC dI cI cL _ x1 x2 (x3 / (2 : Int32)) hN_X hN_Xpile q748 hc) (cw_M_117 hts ⟨Nat.le_of_ble_eq_true rfl, Nat.le_of_ble_eq_true rfl⟩) ⟨zbM, va_recv hK hP (ci := 7) rfl hN_X, (zpM hP hK hZ hD)⟩ rfl rfl hl.1 rfl (lv_room (Nat.le_of_ble_eq_true rfl)) d_M_pileQuarters_46 ⟨Nat.zero_le _, Nat.zero_le _⟩) hS (fun q _ h => hFc q h) hFc (fun ws t H locs ht hvm hu hB hz1 hk1 hS => ?_)
  obtain ⟨hN_X, hN_Xpile, hfr⟩ := hu
  obtain ⟨hP, -, hD1⟩ := hB
  rw [ht] at hP
  have hD := hD1.weaken (fun _ _ _ h => hFc _ h)
  have hN_X : zA ws 21 (aX, .inr (7, [.int X_code, .int X_side, .ref aXpicture, .ref aXhalf, .int X_many, .ref aXblocks, .int X_found, .int X_encodedBits, .ref aXencoded, .int X_fedMany, .ref aXfed, .int X_readAt, .int X_why, .int X_tried, .int q748.1, .ref aXpile, .int X_decoded, .ref aXnews, .ref aXolds, .ref aXhalves, .ref aXds, .ref aXrs, .ref aXbest, .long X_bestError])) := hN_X
  have hN_Xpile : zA ws 27 (aXpile, .inl (cI, Xpile_n, .inl q748.2)) := hN_Xpile
  have hw := z_frC (by decide) hw hfr
  obtain rfl := Option.some.inj hf
  exact W.vret hx hb hr (fun t ht hW => ⟨⟨ws, rfl, ⟨hN_X, hN_Xpile, hw⟩, by rw [ht]; exact hP, va_K.moved hW.alike hK, hD⟩, hS.F ht⟩) hS.2.2 d_M_pileQuarters_49
def f_M_domains (x1 : Int32) (X_side : Int32) : Option (Int32) := if x1 = 0 then none else (some (((X_side - ((2 : Int32) * x1)) / x1) + (1 : Int32)))
set_option maxHeartbeats 4000000 in
set_option maxRecDepth 100000 in
theorem c_M_domains (l : Launch) (dC : Nat → ClassId) (dI : Nat → Nat → Nat) (cI cL : ClassId) {ws : va_W} {aX aXpicture aXhalf aXblocks aXencoded aXfed aXpile aXnews aXolds aXhalves aXds aXrs aXbest : Nat} {X_code X_side X_many X_found X_encodedBits X_fedMany X_readAt X_why X_tried X_waiting X_decoded : Int32} {X_bestError : Int64} (x1 : Int32) (hN_X : zA ws 21 (aX, .inr (7, [.int X_code, .int X_side, .ref aXpicture, .ref aXhalf, .int X_many, .ref aXblocks, .int X_found, .int X_encodedBits, .ref aXencoded, .int X_fedMany, .ref aXfed, .int X_readAt, .int X_why, .int X_tried, .int X_waiting, .ref aXpile, .int X_decoded, .ref aXnews, .ref aXolds, .ref aXhalves, .ref aXds, .ref aXrs, .ref aXbest, .long X_bestError]))) (r : Int32) (hf : f_M_domains x1 X_side = some r) : Met l y_M_domains w_M_domains rm_M_domains (va_Pc [.ref aX, .int x1] (zR dC dI cI cL ws)) (vp_Si (fun v => v = r)) 0 0 (fun _ => False) := by
  refine Met.ofW (cc := b_M_domains) (maxL := 2) (ret := some .int) (by decide) rfl ?_
  intro p e s m args below meth c s₁ B hml hv
  obtain ⟨rfl, hP, hK, hZ⟩ := hv
  have hx := B.exec
  have hb := B.bytes
  have hr := B.returns
  have hlocks := B.notSynchronized
  have hts : ∀ w ∈ BIG, w.before ([.ref aX, .int x1] : List Value).toArray s = true := fun w h => atoms_spec (ws := w_M_domains) B.pre w (List.mem_cons_of_mem _ h)
  have hown : s.vm.findClass "FractalMapsModel" = some m.cls := findClass_of_methodNamed B.named
  have hl := lv_entry ([.ref aX, .int x1]) (n := 2) (Nat.le_of_ble_eq_true rfl)
  rw [lg_entry_eq]
  generalize (lg_sl ([.ref aX, .int x1]) ++ List.replicate (2 - (lg_sl ([.ref aX, .int x1])).length) Slot.unset).toArray = ls at hl ⊢
  have hl : lv_has ls 2 [(0, .ref aX), (1, .int x1)] := hl
  unfold f_M_domains at hf
  refine lv_aload_n hx hb d_M_domains_0 rfl (lv_at hl 0 rfl) ?_
  refine gf_M_46 (v := .int X_side) hx hb hts hown hK hP hN_X rfl d_M_domains_1 ?_
  refine lv_iconst (v := 2) hx hb d_M_domains_4 (by decide) ?_
  refine lv_iload_n hx hb d_M_domains_5 rfl (lv_at hl 1 rfl) ?_
  refine lv_imul hx hb d_M_domains_6 ?_
  refine lv_isub hx hb d_M_domains_7 ?_
  refine lv_iload_n hx hb d_M_domains_8 rfl (lv_at hl 1 rfl) ?_
  obtain ⟨hne, hf⟩ := z_no hf
  refine lv_idiv hx hb d_M_domains_9 hne ?_
  refine lv_iconst (v := 1) hx hb d_M_domains_10 (by decide) ?_
  refine lv_iadd hx hb d_M_domains_11 ?_
  obtain rfl := Option.some.inj hf
  exact W.iret hx hb hr (fun t ht hW => ⟨_, rfl, rfl, ht⟩) (fun q h => by cases h) d_M_domains_12
def f_M_bitsFor_17 (p1 : Int32) (p2 : Int32) : Nat → Int32 → Int32 → Option (Int32 × Int32)
  | 0, _, _ => none
  | n + 1, v3, v4 => if p2 ≤ v4 then (some (v3, v4)) else (f_M_bitsFor_17 p1 p2 n (v3 + 1) ((2 : Int32) * v4))
def f_M_bitsFor (x1 : Int32) (X_side : Int32) : Option (Int32) := (f_M_domains x1 X_side).bind (fun q749 => (f_M_domains x1 X_side).bind (fun q751 => (f_M_bitsFor_17 x1 (q749 * q751) FU (0 : Int32) (1 : Int32)).bind (fun q753 => some q753.1)))
set_option maxHeartbeats 4000000 in
set_option maxRecDepth 100000 in
theorem c_M_bitsFor (l : Launch) (dC : Nat → ClassId) (dI : Nat → Nat → Nat) (cI cL : ClassId) {ws : va_W} {aX aXpicture aXhalf aXblocks aXencoded aXfed aXpile aXnews aXolds aXhalves aXds aXrs aXbest : Nat} {X_code X_side X_many X_found X_encodedBits X_fedMany X_readAt X_why X_tried X_waiting X_decoded : Int32} {X_bestError : Int64} (x1 : Int32) (hN_X : zA ws 21 (aX, .inr (7, [.int X_code, .int X_side, .ref aXpicture, .ref aXhalf, .int X_many, .ref aXblocks, .int X_found, .int X_encodedBits, .ref aXencoded, .int X_fedMany, .ref aXfed, .int X_readAt, .int X_why, .int X_tried, .int X_waiting, .ref aXpile, .int X_decoded, .ref aXnews, .ref aXolds, .ref aXhalves, .ref aXds, .ref aXrs, .ref aXbest, .long X_bestError]))) (r : Int32) (hf : f_M_bitsFor x1 X_side = some r) : Met l y_M_bitsFor w_M_bitsFor rm_M_bitsFor (va_Pc [.ref aX, .int x1] (zR dC dI cI cL ws)) (vp_Si (fun v => v = r)) 0 0 (fun _ => False) := by
  refine Met.ofW (cc := b_M_bitsFor) (maxL := 5) (ret := some .int) (by decide) rfl ?_
  intro p e s m args below meth c s₁ B hml hv
  obtain ⟨rfl, hP, hK, hZ⟩ := hv
  have hx := B.exec
  have hb := B.bytes
  have hr := B.returns
  have hlocks := B.notSynchronized
  have hts : ∀ w ∈ BIG, w.before ([.ref aX, .int x1] : List Value).toArray s = true := fun w h => atoms_spec (ws := w_M_bitsFor) B.pre w (List.mem_cons_of_mem _ h)
  have hown : s.vm.findClass "FractalMapsModel" = some m.cls := findClass_of_methodNamed B.named
  have hl := lv_entry ([.ref aX, .int x1]) (n := 5) (Nat.le_of_ble_eq_true rfl)
  rw [lg_entry_eq]
  generalize (lg_sl ([.ref aX, .int x1]) ++ List.replicate (5 - (lg_sl ([.ref aX, .int x1])).length) Slot.unset).toArray = ls at hl ⊢
  have hl : lv_has ls 5 [(0, .ref aX), (1, .int x1)] := hl
  unfold f_M_bitsFor at hf
  refine lv_aload_n hx hb d_M_bitsFor_0 rfl (lv_at hl 0 rfl) ?_
  refine lv_iload_n hx hb d_M_bitsFor_1 rfl (lv_at hl 1 rfl) ?_
  obtain ⟨q749, hc, hf⟩ := z_b hf
  refine vp_callSi (z_cr (va_runV (As := [.int x1]) (rest := []) ⟨hx, hb, hml, hown, hts⟩ (c_M_domains l dC dI cI cL x1 hN_X q749 hc) (cw_M_69 hts ⟨Nat.le_of_ble_eq_true rfl, Nat.le_of_ble_eq_true rfl⟩) ⟨zbR, va_recv hK hP (ci := 7) rfl hN_X, (zpR hP hK hZ)⟩ rfl rfl hl.1 rfl (lv_room (Nat.le_of_ble_eq_true rfl)) d_M_bitsFor_2 ⟨Nat.zero_le _, Nat.zero_le _⟩)) (fun r750 hv => ?_)
  have hv := hv.symm
  subst hv
  refine lv_aload_n hx hb d_M_bitsFor_5 rfl (lv_at hl 0 rfl) ?_
  refine lv_iload_n hx hb d_M_bitsFor_6 rfl (lv_at hl 1 rfl) ?_
  obtain ⟨q751, hc, hf⟩ := z_b hf
  refine vp_callSi (z_cr (va_runV (As := [.int x1]) (rest := [.int q749]) ⟨hx, hb, hml, hown, hts⟩ (c_M_domains l dC dI cI cL x1 hN_X q751 hc) (cw_M_69 hts ⟨Nat.le_of_ble_eq_true rfl, Nat.le_of_ble_eq_true rfl⟩) ⟨zbR, va_recv hK hP (ci := 7) rfl hN_X, (zpR hP hK hZ)⟩ rfl rfl hl.1 rfl (lv_room (Nat.le_of_ble_eq_true rfl)) d_M_bitsFor_7 ⟨Nat.zero_le _, Nat.zero_le _⟩)) (fun r752 hv => ?_)
  have hv := hv.symm
  subst hv
  refine lv_imul hx hb d_M_bitsFor_10 ?_
  refine lv_istore_n (lv' := [(2, .int (q749 * q751)), (0, .ref aX), (1, .int x1)]) hx hb d_M_bitsFor_11 rfl hl (by decide) rfl (fun ls hl => ?_)
  refine lv_iconst (v := 0) hx hb d_M_bitsFor_12 (by decide) ?_
  refine lv_istore_n (lv' := [(3, .int (0 : Int32)), (2, .int (q749 * q751)), (0, .ref aX), (1, .int x1)]) hx hb d_M_bitsFor_13 rfl hl (by decide) rfl (fun ls hl => ?_)
  refine lv_iconst (v := 1) hx hb d_M_bitsFor_14 (by decide) ?_
  refine lv_istore (lv' := [(4, .int (1 : Int32)), (3, .int (0 : Int32)), (2, .int (q749 * q751)), (0, .ref aX), (1, .int x1)]) hx hb d_M_bitsFor_15 hl (by decide) rfl (fun ls hl => ?_)
  have lp756 : ∀ (Qx : State → Prop) (n : Nat) (v3_754 : Int32) (v4_755 : Int32) (ls : Array Slot) (q : Int32 × Int32) (hf : f_M_bitsFor_17 x1 (q749 * q751) n v3_754 v4_755 = some q) (hl : lv_has ls 5 [(0, .ref aX), (1, .int x1), (2, .int (q749 * q751)), (3, .int v3_754), (4, .int v4_755)]) (kt0 : ∀ (ls : Array Slot), lv_has ls 5 [(0, .ref aX), (1, .int x1), (2, .int (q749 * q751)), (3, .int q.1), (4, .int q.2)] → W p l e (headSpec w_M_bitsFor rm_M_bitsFor).room s m ([.ref aX, .int x1] : List Value).toArray below meth c s.heap [] 0 0 Qx (F0 m 35 ls [])), W p l e (headSpec w_M_bitsFor rm_M_bitsFor).room s m ([.ref aX, .int x1] : List Value).toArray below meth c s.heap [] 0 0 Qx (F0 m 17 ls []) := by
    intro Qx n
    induction n with
    | zero => intro v3_754 v4_755 ls q hf; cases hf
    | succ n ih =>
      intro v3_754 v4_755 ls q hf hl kt0
      rw [f_M_bitsFor_17] at hf
      refine lv_iload hx hb d_M_bitsFor_17 (lv_at hl 4 rfl) ?_
      refine lv_iload_n hx hb d_M_bitsFor_19 rfl (lv_at hl 2 rfl) ?_
      refine lv_icmp_ge (tgt := 35) hx hb d_M_bitsFor_20 (by decide) (fun hc => ?_) (fun hc => ?_)
      · have hf := z_t hc hf
        obtain rfl := Option.some.inj hf
        exact kt0 ls (lv_sub hl [0, 1, 2, 3, 4] rfl)
      · have hf := z_f hc hf
        refine lv_iconst (v := 2) hx hb d_M_bitsFor_23 (by decide) ?_
        refine lv_iload hx hb d_M_bitsFor_24 (lv_at hl 4 rfl) ?_
        refine lv_imul hx hb d_M_bitsFor_26 ?_
        refine lv_istore (lv' := [(4, .int ((2 : Int32) * v4_755)), (0, .ref aX), (1, .int x1), (2, .int (q749 * q751)), (3, .int v3_754)]) hx hb d_M_bitsFor_27 hl (by decide) rfl (fun ls hl => ?_)
        refine lv_iinc (v := (v3_754 + 1)) (lv' := [(3, .int (v3_754 + 1)), (4, .int ((2 : Int32) * v4_755)), (0, .ref aX), (1, .int x1), (2, .int (q749 * q751))]) hx hb d_M_bitsFor_29 hl (k := 4) rfl rfl (by decide) rfl (fun ls hl => ?_)
        refine lv_goto (tgt := 17) hx hb d_M_bitsFor_32 (by decide) ?_
        exact ih (v3_754 + 1) ((2 : Int32) * v4_755) ls _ hf (lv_sub hl [2, 3, 4, 0, 1] rfl) kt0
  obtain ⟨q753, hc, hf⟩ := z_b hf
  refine lp756 _ FU (0 : Int32) (1 : Int32) ls q753 hc (lv_sub hl [3, 4, 2, 1, 0] rfl) (fun ls hl => ?_)
  refine lv_iload_n hx hb d_M_bitsFor_35 rfl (lv_at hl 3 rfl) ?_
  obtain rfl := Option.some.inj hf
  exact W.iret hx hb hr (fun t ht hW => ⟨_, rfl, rfl, ht⟩) (fun q h => by cases h) d_M_bitsFor_36
def f_M_note_44 (p1 : Int32) (p2 : Int32) (p3 : Int32) (p4 : Int32) (p5 : Int32) (Xblocks_n : Nat) (Xbest_n : Nat) (Xbest_f : Nat → Int32) : Nat → Int32 → (Nat → Int32) → Option (Int32 × (Nat → Int32))
  | 0, _, _ => none
  | n + 1, v6, Xblocks_f => if (4 : Int32) ≤ v6 then (some (v6, Xblocks_f)) else (if v6 < 0 ∨ Xbest_n ≤ v6.toNatClampNeg then none else (if ((p5 + (3 : Int32)) + v6) < 0 ∨ Xblocks_n ≤ ((p5 + (3 : Int32)) + v6).toNatClampNeg then none else (f_M_note_44 p1 p2 p3 p4 p5 Xblocks_n Xbest_n Xbest_f n (v6 + 1) (upd Xblocks_f ((p5 + (3 : Int32)) + v6).toNatClampNeg (Xbest_f v6.toNatClampNeg)))))
def f_M_note (x1 : Int32) (x2 : Int32) (x3 : Int32) (x4 : Int32) (X_found : Int32) (Xblocks_n : Nat) (Xblocks_f : Nat → Int32) (Xbest_n : Nat) (Xbest_f : Nat → Int32) : Option (Int32 × (Nat → Int32)) := if ((8 : Int32) * ((256 : Int32) + X_found)) < 0 ∨ Xblocks_n ≤ ((8 : Int32) * ((256 : Int32) + X_found)).toNatClampNeg then none else (if (((8 : Int32) * ((256 : Int32) + X_found)) + (1 : Int32)) < 0 ∨ Xblocks_n ≤ (((8 : Int32) * ((256 : Int32) + X_found)) + (1 : Int32)).toNatClampNeg then none else (if (((8 : Int32) * ((256 : Int32) + X_found)) + (2 : Int32)) < 0 ∨ Xblocks_n ≤ (((8 : Int32) * ((256 : Int32) + X_found)) + (2 : Int32)).toNatClampNeg then none else ((f_M_note_44 x1 x2 x3 x4 ((8 : Int32) * ((256 : Int32) + X_found)) Xblocks_n Xbest_n Xbest_f FU (0 : Int32) (upd (upd (upd Xblocks_f ((8 : Int32) * ((256 : Int32) + X_found)).toNatClampNeg x1) (((8 : Int32) * ((256 : Int32) + X_found)) + (1 : Int32)).toNatClampNeg x2) (((8 : Int32) * ((256 : Int32) + X_found)) + (2 : Int32)).toNatClampNeg x3)).bind (fun q757 => if (((8 : Int32) * ((256 : Int32) + X_found)) + (7 : Int32)) < 0 ∨ Xblocks_n ≤ (((8 : Int32) * ((256 : Int32) + X_found)) + (7 : Int32)).toNatClampNeg then none else (some ((X_found + (1 : Int32)), (upd q757.2 (((8 : Int32) * ((256 : Int32) + X_found)) + (7 : Int32)).toNatClampNeg x4)))))))
set_option maxHeartbeats 4000000 in
set_option maxRecDepth 100000 in
theorem c_M_note (l : Launch) (dC : Nat → ClassId) (dI : Nat → Nat → Nat) (cI cL : ClassId) {ws0 : va_W} (sz : Nat) {aX aXpicture aXhalf aXblocks aXencoded aXfed aXpile aXnews aXolds aXhalves aXds aXrs aXbest : Nat} {X_code X_side X_many X_found X_encodedBits X_fedMany X_readAt X_why X_tried X_waiting X_decoded : Int32} {X_bestError : Int64} {Xblocks_n Xbest_n : Nat} {Xblocks_f Xbest_f : Nat → Int32} (x1 : Int32) (x2 : Int32) (x3 : Int32) (x4 : Int32) (hN_X : zA ws0 21 (aX, .inr (7, [.int X_code, .int X_side, .ref aXpicture, .ref aXhalf, .int X_many, .ref aXblocks, .int X_found, .int X_encodedBits, .ref aXencoded, .int X_fedMany, .ref aXfed, .int X_readAt, .int X_why, .int X_tried, .int X_waiting, .ref aXpile, .int X_decoded, .ref aXnews, .ref aXolds, .ref aXhalves, .ref aXds, .ref aXrs, .ref aXbest, .long X_bestError]))) (hN_Xblocks : zA ws0 24 (aXblocks, .inl (cI, Xblocks_n, .inl Xblocks_f))) (hN_Xbest : zA ws0 33 (aXbest, .inl (cI, Xbest_n, .inl Xbest_f))) (r : Int32 × (Nat → Int32)) (hf : f_M_note x1 x2 x3 x4 X_found Xblocks_n Xblocks_f Xbest_n Xbest_f = some r) : Met l y_M_note w_M_note rm_M_note (va_Pc [.ref aX, .int x1, .int x2, .int x3, .int x4] (zM dC dI cI cL ws0 sz)) (va_Qv (fun ws' : va_W => zA ws' 21 (aX, .inr (7, [.int X_code, .int X_side, .ref aXpicture, .ref aXhalf, .int X_many, .ref aXblocks, .int r.1, .int X_encodedBits, .ref aXencoded, .int X_fedMany, .ref aXfed, .int X_readAt, .int X_why, .int X_tried, .int X_waiting, .ref aXpile, .int X_decoded, .ref aXnews, .ref aXolds, .ref aXhalves, .ref aXds, .ref aXrs, .ref aXbest, .long X_bestError])) ∧ zA ws' 24 (aXblocks, .inl (cI, Xblocks_n, .inl r.2)) ∧ ∀ (j : Nat), j ∉ ([21, 24] : List Nat) → ws'[j]? = ws0[j]?) (zQ dC dI cI cL (va_A ws0 sz)) (va_A ws0 sz)) 0 0 (va_A ws0 sz) := by
  refine Met.ofW (cc := b_M_note) (maxL := 7) (ret := none) (by decide) rfl ?_
  intro p e s m args below meth c s₁ B hml hv
  obtain ⟨rfl, hsz, hP, hK, hZ, hD0⟩ := hv
  have hx := B.exec
  have hb := B.bytes
  have hr := B.returns
  have hlocks := B.notSynchronized
  have hts : ∀ w ∈ BIG, w.before ([.ref aX, .int x1, .int x2, .int x3, .int x4] : List Value).toArray s = true := fun w h => atoms_spec (ws := w_M_note) B.pre w (List.mem_cons_of_mem _ h)
  have hown : s.vm.findClass "FractalMapsModel" = some m.cls := findClass_of_methodNamed B.named
  subst hsz
  have hD := hD0.self (sz := s.heap.size)
  generalize hAe : va_A ws0 s.heap.size = A at hD ⊢
  have hA : ∀ q : Nat, s.heap.size ≤ q → A q := fun q h => by rw [← hAe]; exact Or.inr h
  have hS : va_S A s.heap s.heap [] := va_S.rf
  have hw : ∀ (j : Nat), j ∉ ([21, 24] : List Nat) → ws0[j]? = ws0[j]? := fun _ _ => rfl
  have hl := lv_entry ([.ref aX, .int x1, .int x2, .int x3, .int x4]) (n := 7) (Nat.le_of_ble_eq_true rfl)
  rw [lg_entry_eq]
  generalize (lg_sl ([.ref aX, .int x1, .int x2, .int x3, .int x4]) ++ List.replicate (7 - (lg_sl ([.ref aX, .int x1, .int x2, .int x3, .int x4])).length) Slot.unset).toArray = ls at hl ⊢
  have hl : lv_has ls 7 [(0, .ref aX), (1, .int x1), (2, .int x2), (3, .int x3), (4, .int x4)] := hl
  unfold f_M_note at hf
  refine lv_bipush (v := 8) hx hb d_M_note_0 (by decide) ?_
  refine lv_sipush (v := 256) hx hb d_M_note_2 (by decide) ?_
  refine lv_aload_n hx hb d_M_note_5 rfl (lv_at hl 0 rfl) ?_
  refine gf_M_120 (v := .int X_found) hx hb hts hown hK hP hN_X rfl d_M_note_6 ?_
  refine lv_iadd hx hb d_M_note_9 ?_
  refine lv_imul hx hb d_M_note_10 ?_
  refine lv_istore (lv' := [(5, .int ((8 : Int32) * ((256 : Int32) + X_found))), (0, .ref aX), (1, .int x1), (2, .int x2), (3, .int x3), (4, .int x4)]) hx hb d_M_note_11 hl (by decide) rfl (fun ls hl => ?_)
  refine lv_aload_n hx hb d_M_note_13 rfl (lv_at hl 1 rfl) ?_
  refine gf_M_16 (v := .ref aXblocks) hx hb hts hown hK hP hN_X rfl d_M_note_14 ?_
  refine lv_iload hx hb d_M_note_17 (lv_at hl 0 rfl) ?_
  refine lv_iload_n hx hb d_M_note_19 rfl (lv_at hl 2 rfl) ?_
  obtain ⟨hin, hf⟩ := z_no hf
  refine z_iast hx hb hK hP hD hS hN_Xblocks rfl hin d_M_note_20 (fun ws H locs hP hD hS hN_Xblocks hfr => ?_)
  have hN_Xblocks : zA ws 24 (aXblocks, .inl (cI, Xblocks_n, .inl (upd Xblocks_f ((8 : Int32) * ((256 : Int32) + X_found)).toNatClampNeg x1))) := hN_Xblocks
  have hN_X := (hfr _ (by decide)).trans hN_X
  have hN_Xbest := (hfr _ (by decide)).trans hN_Xbest
  have hw := z_fr (by decide) hw hfr
  refine lv_aload_n hx hb d_M_note_21 rfl (lv_at hl 1 rfl) ?_
  refine gf_M_16 (v := .ref aXblocks) hx hb hts hown hK hP hN_X rfl d_M_note_22 ?_
  refine lv_iload hx hb d_M_note_25 (lv_at hl 0 rfl) ?_
  refine lv_iconst (v := 1) hx hb d_M_note_27 (by decide) ?_
  refine lv_iadd hx hb d_M_note_28 ?_
  refine lv_iload_n hx hb d_M_note_29 rfl (lv_at hl 3 rfl) ?_
  obtain ⟨hin, hf⟩ := z_no hf
  refine z_iast hx hb hK hP hD hS hN_Xblocks rfl hin d_M_note_30 (fun ws H locs hP hD hS hN_Xblocks hfr => ?_)
  have hN_Xblocks : zA ws 24 (aXblocks, .inl (cI, Xblocks_n, .inl (upd (upd Xblocks_f ((8 : Int32) * ((256 : Int32) + X_found)).toNatClampNeg x1) (((8 : Int32) * ((256 : Int32) + X_found)) + (1 : Int32)).toNatClampNeg x2))) := hN_Xblocks
  have hN_X := (hfr _ (by decide)).trans hN_X
  have hN_Xbest := (hfr _ (by decide)).trans hN_Xbest
  have hw := z_fr (by decide) hw hfr
  refine lv_aload_n hx hb d_M_note_31 rfl (lv_at hl 1 rfl) ?_
  refine gf_M_16 (v := .ref aXblocks) hx hb hts hown hK hP hN_X rfl d_M_note_32 ?_
  refine lv_iload hx hb d_M_note_35 (lv_at hl 0 rfl) ?_
  refine lv_iconst (v := 2) hx hb d_M_note_37 (by decide) ?_
  refine lv_iadd hx hb d_M_note_38 ?_
  refine lv_iload_n hx hb d_M_note_39 rfl (lv_at hl 4 rfl) ?_
  obtain ⟨hin, hf⟩ := z_no hf
  refine z_iast hx hb hK hP hD hS hN_Xblocks rfl hin d_M_note_40 (fun ws H locs hP hD hS hN_Xblocks hfr => ?_)
  have hN_Xblocks : zA ws 24 (aXblocks, .inl (cI, Xblocks_n, .inl (upd (upd (upd Xblocks_f ((8 : Int32) * ((256 : Int32) + X_found)).toNatClampNeg x1) (((8 : Int32) * ((256 : Int32) + X_found)) + (1 : Int32)).toNatClampNeg x2) (((8 : Int32) * ((256 : Int32) + X_found)) + (2 : Int32)).toNatClampNeg x3))) := hN_Xblocks
  have hN_X := (hfr _ (by decide)).trans hN_X
  have hN_Xbest := (hfr _ (by decide)).trans hN_Xbest
  have hw := z_fr (by decide) hw hfr
  refine lv_iconst (v := 0) hx hb d_M_note_41 (by decide) ?_
  refine lv_istore (lv' := [(6, .int (0 : Int32)), (5, .int ((8 : Int32) * ((256 : Int32) + X_found))), (0, .ref aX), (1, .int x1), (2, .int x2), (3, .int x3), (4, .int x4)]) hx hb d_M_note_42 hl (by decide) rfl (fun ls hl => ?_)
  have lp760 : ∀ (Qx : State → Prop) (n : Nat) (v6_758 : Int32) (Xblocks_f_759 : Nat → Int32) (ws : va_W) (H : Heap) (locs : List Loc) (ls : Array Slot) (q : Int32 × (Nat → Int32)) (hf : f_M_note_44 x1 x2 x3 x4 ((8 : Int32) * ((256 : Int32) + X_found)) Xblocks_n Xbest_n Xbest_f n v6_758 Xblocks_f_759 = some q) (hl : lv_has ls 7 [(0, .ref aX), (1, .int x1), (2, .int x2), (3, .int x3), (4, .int x4), (5, .int ((8 : Int32) * ((256 : Int32) + X_found))), (6, .int v6_758)]) (hP : va_P (dC, dI) classes ws H) (hD : va_D A ws) (hS : va_S A s.heap H locs) (hN_X : zA ws 21 (aX, .inr (7, [.int X_code, .int X_side, .ref aXpicture, .ref aXhalf, .int X_many, .ref aXblocks, .int X_found, .int X_encodedBits, .ref aXencoded, .int X_fedMany, .ref aXfed, .int X_readAt, .int X_why, .int X_tried, .int X_waiting, .ref aXpile, .int X_decoded, .ref aXnews, .ref aXolds, .ref aXhalves, .ref aXds, .ref aXrs, .ref aXbest, .long X_bestError]))) (hN_Xblocks : zA ws 24 (aXblocks, .inl (cI, Xblocks_n, .inl Xblocks_f_759))) (hN_Xbest : zA ws 33 (aXbest, .inl (cI, Xbest_n, .inl Xbest_f))) (hw : ∀ (j : Nat), j ∉ ([21, 24] : List Nat) → ws[j]? = ws0[j]?) (kt0 : ∀ (ws : va_W) (H : Heap) (locs : List Loc) (ls : Array Slot), lv_has ls 7 [(0, .ref aX), (1, .int x1), (2, .int x2), (3, .int x3), (4, .int x4), (5, .int ((8 : Int32) * ((256 : Int32) + X_found))), (6, .int q.1)] → (va_P (dC, dI) classes ws H) → (va_D A ws) → (va_S A s.heap H locs) → (zA ws 21 (aX, .inr (7, [.int X_code, .int X_side, .ref aXpicture, .ref aXhalf, .int X_many, .ref aXblocks, .int X_found, .int X_encodedBits, .ref aXencoded, .int X_fedMany, .ref aXfed, .int X_readAt, .int X_why, .int X_tried, .int X_waiting, .ref aXpile, .int X_decoded, .ref aXnews, .ref aXolds, .ref aXhalves, .ref aXds, .ref aXrs, .ref aXbest, .long X_bestError]))) → (zA ws 24 (aXblocks, .inl (cI, Xblocks_n, .inl q.2))) → (zA ws 33 (aXbest, .inl (cI, Xbest_n, .inl Xbest_f))) → (∀ (j : Nat), j ∉ ([21, 24] : List Nat) → ws[j]? = ws0[j]?) → W p l e (headSpec w_M_note rm_M_note).room s m ([.ref aX, .int x1, .int x2, .int x3, .int x4] : List Value).toArray below meth c H locs 0 0 Qx (F0 m 75 ls [])), W p l e (headSpec w_M_note rm_M_note).room s m ([.ref aX, .int x1, .int x2, .int x3, .int x4] : List Value).toArray below meth c H locs 0 0 Qx (F0 m 44 ls []) := by
    intro Qx n
    induction n with
    | zero => intro v6_758 Xblocks_f_759 ws H locs ls q hf; cases hf
    | succ n ih =>
      intro v6_758 Xblocks_f_759 ws H locs ls q hf hl hP hD hS hN_X hN_Xblocks hN_Xbest hw kt0
      rw [f_M_note_44] at hf
      refine lv_iload hx hb d_M_note_44 (lv_at hl 6 rfl) ?_
      refine lv_iconst (v := 4) hx hb d_M_note_46 (by decide) ?_
      refine lv_icmp_ge (tgt := 75) hx hb d_M_note_47 (by decide) (fun hc => ?_) (fun hc => ?_)
      · have hf := z_t hc hf
        obtain rfl := Option.some.inj hf
        exact kt0 _ _ _ ls (lv_sub hl [0, 1, 2, 3, 4, 5, 6] rfl) hP hD hS hN_X hN_Xblocks hN_Xbest hw
      · have hf := z_f hc hf
        refine lv_aload_n hx hb d_M_note_50 rfl (lv_at hl 0 rfl) ?_
        refine gf_M_16 (v := .ref aXblocks) hx hb hts hown hK hP hN_X rfl d_M_note_51 ?_
        refine lv_iload hx hb d_M_note_54 (lv_at hl 5 rfl) ?_
        refine lv_iconst (v := 3) hx hb d_M_note_56 (by decide) ?_
        refine lv_iadd hx hb d_M_note_57 ?_
        refine lv_iload hx hb d_M_note_58 (lv_at hl 6 rfl) ?_
        refine lv_iadd hx hb d_M_note_60 ?_
        refine lv_aload_n hx hb d_M_note_61 rfl (lv_at hl 0 rfl) ?_
        refine gf_M_43 (v := .ref aXbest) hx hb hts hown hK hP hN_X rfl d_M_note_62 ?_
        refine lv_iload hx hb d_M_note_65 (lv_at hl 6 rfl) ?_
        obtain ⟨hin, hf⟩ := z_no hf
        refine va_iald hx hb hK hP _ 0 hN_Xbest rfl hin d_M_note_67 ?_
        obtain ⟨hin, hf⟩ := z_no hf
        refine z_iast hx hb hK hP hD hS hN_Xblocks rfl hin d_M_note_68 (fun ws H locs hP hD hS hN_Xblocks hfr => ?_)
        have hN_Xblocks : zA ws 24 (aXblocks, .inl (cI, Xblocks_n, .inl (upd Xblocks_f_759 ((((8 : Int32) * ((256 : Int32) + X_found)) + (3 : Int32)) + v6_758).toNatClampNeg (Xbest_f v6_758.toNatClampNeg)))) := hN_Xblocks
        have hN_X := (hfr _ (by decide)).trans hN_X
        have hN_Xbest := (hfr _ (by decide)).trans hN_Xbest
        have hw := z_fr (by decide) hw hfr
        refine lv_iinc (v := (v6_758 + 1)) (lv' := [(6, .int (v6_758 + 1)), (0, .ref aX), (1, .int x1), (2, .int x2), (3, .int x3), (4, .int x4), (5, .int ((8 : Int32) * ((256 : Int32) + X_found)))]) hx hb d_M_note_69 hl (k := 6) rfl rfl (by decide) rfl (fun ls hl => ?_)
        refine lv_goto (tgt := 44) hx hb d_M_note_72 (by decide) ?_
        exact ih (v6_758 + 1) (upd Xblocks_f_759 ((((8 : Int32) * ((256 : Int32) + X_found)) + (3 : Int32)) + v6_758).toNatClampNeg (Xbest_f v6_758.toNatClampNeg)) _ _ _ ls _ hf (lv_sub hl [1, 2, 3, 4, 5, 6, 0] rfl) hP hD hS hN_X hN_Xblocks hN_Xbest hw kt0
  obtain ⟨q757, hc, hf⟩ := z_b hf
  refine lp760 _ FU (0 : Int32) (upd (upd (upd Xblocks_f ((8 : Int32) * ((256 : Int32) + X_found)).toNatClampNeg x1) (((8 : Int32) * ((256 : Int32) + X_found)) + (1 : Int32)).toNatClampNeg x2) (((8 : Int32) * ((256 : Int32) + X_found)) + (2 : Int32)).toNatClampNeg x3) _ _ _ ls q757 hc (lv_sub hl [2, 3, 4, 5, 6, 1, 0] rfl) hP hD hS hN_X hN_Xblocks hN_Xbest hw (fun ws H locs ls hl hP hD hS hN_X hN_Xblocks hN_Xbest hw => ?_)
  refine lv_aload_n hx hb d_M_note_75 rfl (lv_at hl 0 rfl) ?_
  refine gf_M_16 (v := .ref aXblocks) hx hb hts hown hK hP hN_X rfl d_M_note_76 ?_
  refine lv_iload hx hb d_M_note_79 (lv_at hl 5 rfl) ?_
  refine lv_bipush (v := 7) hx hb d_M_note_81 (by decide) ?_
  refine lv_iadd hx hb d_M_note_83 ?_
  refine lv_iload hx hb d_M_note_84 (lv_at hl 4 rfl) ?_
  obtain ⟨hin, hf⟩ := z_no hf
  refine z_iast hx hb hK hP hD hS hN_Xblocks rfl hin d_M_note_86 (fun ws H locs hP hD hS hN_Xblocks hfr => ?_)
  have hN_Xblocks : zA ws 24 (aXblocks, .inl (cI, Xblocks_n, .inl (upd q757.2 (((8 : Int32) * ((256 : Int32) + X_found)) + (7 : Int32)).toNatClampNeg x4))) := hN_Xblocks
  have hN_X := (hfr _ (by decide)).trans hN_X
  have hN_Xbest := (hfr _ (by decide)).trans hN_Xbest
  have hw := z_fr (by decide) hw hfr
  refine lv_aload_n hx hb d_M_note_87 rfl (lv_at hl 0 rfl) ?_
  refine lv_dup hx hb d_M_note_88 rfl ?_
  refine gf_M_120 (v := .int X_found) hx hb hts hown hK hP hN_X rfl d_M_note_89 ?_
  refine lv_iconst (v := 1) hx hb d_M_note_92 (by decide) ?_
  refine lv_iadd hx hb d_M_note_93 ?_
  refine pf_M_120 (v := .int (X_found + (1 : Int32))) hx hb hts hown hK hP hD hS hN_X rfl rfl (Nat.le_of_ble_eq_true rfl) d_M_note_94 (fun ws H locs hP hD hS hN_X hfr => ?_)
  have hN_X : zA ws 21 (aX, .inr (7, [.int X_code, .int X_side, .ref aXpicture, .ref aXhalf, .int X_many, .ref aXblocks, .int (X_found + (1 : Int32)), .int X_encodedBits, .ref aXencoded, .int X_fedMany, .ref aXfed, .int X_readAt, .int X_why, .int X_tried, .int X_waiting, .ref aXpile, .int X_decoded, .ref aXnews, .ref aXolds, .ref aXhalves, .ref aXds, .ref aXrs, .ref aXbest, .long X_bestError])) := hN_X
  have hN_Xblocks := (hfr _ (by decide)).trans hN_Xblocks
  have hN_Xbest := (hfr _ (by decide)).trans hN_Xbest
  have hw := z_fr (by decide) hw hfr
  obtain rfl := Option.some.inj hf
  exact W.vret hx hb hr (fun t ht hW => ⟨⟨ws, rfl, ⟨hN_X, hN_Xblocks, hw⟩, by rw [ht]; exact hP, va_K.moved hW.alike hK, hD⟩, hS.F ht⟩) hS.2.2 d_M_note_97
