def f_M_readBlock_J106 (p1 : Int32) (p2 : Int32) (p3 : Int32) (X_found : Int32) (X_fedMany : Int32) (X_readAt : Int32) (X_why : Int32) (Xblocks_n : Nat) (Xblocks_f : Nat → Int32) (Xfed_n : Nat) (Xfed_f : Nat → Int32) (Xbest_n : Nat) (Xbest_f : Nat → Int32) (s0 : Int32) : Option (Int32 × Int32 × Int32 × (Nat → Int32) × (Nat → Int32)) := (f_M_take (10 : Int32) X_fedMany X_readAt s0 Xfed_n Xfed_f).bind (fun q766 => if (3 : Int32) < 0 ∨ Xbest_n ≤ (3 : Int32).toNatClampNeg then none else (if 0 ≤ q766.2.2 then (some (X_found, q766.2.1, q766.2.2, Xblocks_f, (upd Xbest_f (3 : Int32).toNatClampNeg (q766.1 - (256 : Int32))))) else ((f_M_note p1 p2 p3 ((-1) : Int32) X_found Xblocks_n Xblocks_f Xbest_n (upd Xbest_f (3 : Int32).toNatClampNeg (q766.1 - (256 : Int32)))).bind (fun q767 => some (q767.1, q766.2.1, q766.2.2, q767.2, (upd Xbest_f (3 : Int32).toNatClampNeg (q766.1 - (256 : Int32))))))))
def f_M_readBlock_J51 (p1 : Int32) (p2 : Int32) (p3 : Int32) (X_found : Int32) (X_fedMany : Int32) (X_readAt : Int32) (X_why : Int32) (Xblocks_n : Nat) (Xblocks_f : Nat → Int32) (Xfed_n : Nat) (Xfed_f : Nat → Int32) (Xbest_n : Nat) (Xbest_f : Nat → Int32) (s0 : Int32) : Option (Int32 × Int32 × Int32 × (Nat → Int32) × (Nat → Int32)) := (f_M_take (3 : Int32) X_fedMany X_readAt s0 Xfed_n Xfed_f).bind (fun q764 => if (1 : Int32) < 0 ∨ Xbest_n ≤ (1 : Int32).toNatClampNeg then none else ((f_M_take (4 : Int32) X_fedMany q764.2.1 q764.2.2 Xfed_n Xfed_f).bind (fun q765 => if (2 : Int32) < 0 ∨ Xbest_n ≤ (2 : Int32).toNatClampNeg then none else (if 0 ≤ q765.2.2 then (f_M_readBlock_J106 p1 p2 p3 X_found X_fedMany q765.2.1 q765.2.2 Xblocks_n Xblocks_f Xfed_n Xfed_f Xbest_n (upd (upd Xbest_f (1 : Int32).toNatClampNeg q764.1) (2 : Int32).toNatClampNeg (q765.1 - (7 : Int32))) q765.2.2) else (if (2 : Int32) < 0 ∨ Xbest_n ≤ (2 : Int32).toNatClampNeg then none else (if ((upd (upd Xbest_f (1 : Int32).toNatClampNeg q764.1) (2 : Int32).toNatClampNeg (q765.1 - (7 : Int32))) (2 : Int32).toNatClampNeg) ≤ (7 : Int32) then (f_M_readBlock_J106 p1 p2 p3 X_found X_fedMany q765.2.1 q765.2.2 Xblocks_n Xblocks_f Xfed_n Xfed_f Xbest_n (upd (upd Xbest_f (1 : Int32).toNatClampNeg q764.1) (2 : Int32).toNatClampNeg (q765.1 - (7 : Int32))) q765.2.2) else (f_M_readBlock_J106 p1 p2 p3 X_found X_fedMany q765.2.1 q765.2.2 Xblocks_n Xblocks_f Xfed_n Xfed_f Xbest_n (upd (upd Xbest_f (1 : Int32).toNatClampNeg q764.1) (2 : Int32).toNatClampNeg (q765.1 - (7 : Int32))) (2 : Int32))))))))
def f_M_readBlock (x1 : Int32) (x2 : Int32) (x3 : Int32) (X_side : Int32) (X_found : Int32) (X_fedMany : Int32) (X_readAt : Int32) (X_why : Int32) (Xblocks_n : Nat) (Xblocks_f : Nat → Int32) (Xfed_n : Nat) (Xfed_f : Nat → Int32) (Xbest_n : Nat) (Xbest_f : Nat → Int32) : Option (Int32 × Int32 × Int32 × (Nat → Int32) × (Nat → Int32)) := (f_M_bitsFor x3 X_side).bind (fun q761 => (f_M_take q761 X_fedMany X_readAt X_why Xfed_n Xfed_f).bind (fun q763 => if (0 : Int32) < 0 ∨ Xbest_n ≤ (0 : Int32).toNatClampNeg then none else (if 0 ≤ q763.2.2 then (f_M_readBlock_J51 x1 x2 x3 X_found X_fedMany q763.2.1 q763.2.2 Xblocks_n Xblocks_f Xfed_n Xfed_f Xbest_n (upd Xbest_f (0 : Int32).toNatClampNeg q763.1) q763.2.2) else (if (0 : Int32) < 0 ∨ Xbest_n ≤ (0 : Int32).toNatClampNeg then none else ((f_M_domains x3 X_side).bind (fun q776 => (f_M_domains x3 X_side).bind (fun q778 => if ((upd Xbest_f (0 : Int32).toNatClampNeg q763.1) (0 : Int32).toNatClampNeg) < (q776 * q778) then (f_M_readBlock_J51 x1 x2 x3 X_found X_fedMany q763.2.1 q763.2.2 Xblocks_n Xblocks_f Xfed_n Xfed_f Xbest_n (upd Xbest_f (0 : Int32).toNatClampNeg q763.1) q763.2.2) else (f_M_readBlock_J51 x1 x2 x3 X_found X_fedMany q763.2.1 q763.2.2 Xblocks_n Xblocks_f Xfed_n Xfed_f Xbest_n (upd Xbest_f (0 : Int32).toNatClampNeg q763.1) (1 : Int32)))))))))
set_option maxHeartbeats 4000000 in
set_option maxRecDepth 100000 in
theorem c_M_readBlock (l : Launch) (dC : Nat → ClassId) (dI : Nat → Nat → Nat) (cI cL : ClassId) {ws0 : va_W} (sz : Nat) {aX aXpicture aXhalf aXblocks aXencoded aXfed aXpile aXnews aXolds aXhalves aXds aXrs aXbest : Nat} {X_code X_side X_many X_found X_encodedBits X_fedMany X_readAt X_why X_tried X_waiting X_decoded : Int32} {X_bestError : Int64} {Xblocks_n Xfed_n Xbest_n : Nat} {Xblocks_f Xfed_f Xbest_f : Nat → Int32} (x1 : Int32) (x2 : Int32) (x3 : Int32) (hN_X : zA ws0 21 (aX, .inr (7, [.int X_code, .int X_side, .ref aXpicture, .ref aXhalf, .int X_many, .ref aXblocks, .int X_found, .int X_encodedBits, .ref aXencoded, .int X_fedMany, .ref aXfed, .int X_readAt, .int X_why, .int X_tried, .int X_waiting, .ref aXpile, .int X_decoded, .ref aXnews, .ref aXolds, .ref aXhalves, .ref aXds, .ref aXrs, .ref aXbest, .long X_bestError]))) (hN_Xblocks : zA ws0 24 (aXblocks, .inl (cI, Xblocks_n, .inl Xblocks_f))) (hN_Xfed : zA ws0 26 (aXfed, .inl (cI, Xfed_n, .inl Xfed_f))) (hN_Xbest : zA ws0 33 (aXbest, .inl (cI, Xbest_n, .inl Xbest_f))) (r : Int32 × Int32 × Int32 × (Nat → Int32) × (Nat → Int32)) (hf : f_M_readBlock x1 x2 x3 X_side X_found X_fedMany X_readAt X_why Xblocks_n Xblocks_f Xfed_n Xfed_f Xbest_n Xbest_f = some r) : Met l y_M_readBlock w_M_readBlock rm_M_readBlock (va_Pc [.ref aX, .int x1, .int x2, .int x3] (zM dC dI cI cL ws0 sz)) (va_Qv (fun ws' : va_W => zA ws' 21 (aX, .inr (7, [.int X_code, .int X_side, .ref aXpicture, .ref aXhalf, .int X_many, .ref aXblocks, .int r.1, .int X_encodedBits, .ref aXencoded, .int X_fedMany, .ref aXfed, .int r.2.1, .int r.2.2.1, .int X_tried, .int X_waiting, .ref aXpile, .int X_decoded, .ref aXnews, .ref aXolds, .ref aXhalves, .ref aXds, .ref aXrs, .ref aXbest, .long X_bestError])) ∧ zA ws' 24 (aXblocks, .inl (cI, Xblocks_n, .inl r.2.2.2.1)) ∧ zA ws' 33 (aXbest, .inl (cI, Xbest_n, .inl r.2.2.2.2)) ∧ ∀ (j : Nat), j ∉ ([21, 24, 33] : List Nat) → ws'[j]? = ws0[j]?) (zQ dC dI cI cL (va_A ws0 sz)) (va_A ws0 sz)) 0 0 (va_A ws0 sz) := by
  refine Met.ofW (cc := b_M_readBlock) (maxL := 4) (ret := none) (by decide) rfl ?_
  intro p e s m args below meth c s₁ B hml hv
  obtain ⟨rfl, hsz, hP, hK, hZ, hD0⟩ := hv
  have hx := B.exec
  have hb := B.bytes
  have hr := B.returns
  have hlocks := B.notSynchronized
  have hts : ∀ w ∈ BIG, w.before ([.ref aX, .int x1, .int x2, .int x3] : List Value).toArray s = true := fun w h => atoms_spec (ws := w_M_readBlock) B.pre w (List.mem_cons_of_mem _ h)
  have hown : s.vm.findClass "FractalMapsModel" = some m.cls := findClass_of_methodNamed B.named
  subst hsz
  have hD := hD0.self (sz := s.heap.size)
  generalize hAe : va_A ws0 s.heap.size = A at hD ⊢
  have hA : ∀ q : Nat, s.heap.size ≤ q → A q := fun q h => by rw [← hAe]; exact Or.inr h
  have hS : va_S A s.heap s.heap [] := va_S.rf
  have hw : ∀ (j : Nat), j ∉ ([21, 24, 33] : List Nat) → ws0[j]? = ws0[j]? := fun _ _ => rfl
  have hl := lv_entry ([.ref aX, .int x1, .int x2, .int x3]) (n := 4) (Nat.le_of_ble_eq_true rfl)
  rw [lg_entry_eq]
  generalize (lg_sl ([.ref aX, .int x1, .int x2, .int x3]) ++ List.replicate (4 - (lg_sl ([.ref aX, .int x1, .int x2, .int x3])).length) Slot.unset).toArray = ls at hl ⊢
  have hl : lv_has ls 4 [(0, .ref aX), (1, .int x1), (2, .int x2), (3, .int x3)] := hl
  unfold f_M_readBlock at hf
  refine lv_aload_n hx hb d_M_readBlock_0 rfl (lv_at hl 0 rfl) ?_
  refine gf_M_43 (v := .ref aXbest) hx hb hts hown hK hP hN_X rfl d_M_readBlock_1 ?_
  refine lv_iconst (v := 0) hx hb d_M_readBlock_4 (by decide) ?_
  refine lv_aload_n hx hb d_M_readBlock_5 rfl (lv_at hl 0 rfl) ?_
  refine lv_aload_n hx hb d_M_readBlock_6 rfl (lv_at hl 0 rfl) ?_
  refine lv_iload_n hx hb d_M_readBlock_7 rfl (lv_at hl 3 rfl) ?_
  obtain ⟨q761, hc, hf⟩ := z_b hf
  refine vp_callSi (z_cr (va_runV (As := [.int x3]) (rest := [.ref aX, .int (0 : Int32), .ref aXbest]) ⟨hx, hb, hml, hown, hts⟩ (c_M_bitsFor l dC dI cI cL x3 hN_X q761 hc) (cw_M_151 hts ⟨Nat.le_of_ble_eq_true rfl, Nat.le_of_ble_eq_true rfl⟩) ⟨zbR, va_recv hK hP (ci := 7) rfl hN_X, (zpR hP hK hZ)⟩ rfl rfl hl.1 rfl (lv_room (Nat.le_of_ble_eq_true rfl)) d_M_readBlock_8 ⟨Nat.zero_le _, Nat.zero_le _⟩)) (fun r762 hv => ?_)
  have hv := hv.symm
  subst hv
  obtain ⟨q763, hc, hf⟩ := z_b hf
  have hFc := z_free hD hS hA
  refine va_calli (va_runV (As := [.int q761]) (rest := [.int (0 : Int32), .ref aXbest]) ⟨hx, hb, hml, hown, hts⟩ (c_M_take l dC dI cI cL _ q761 hN_X hN_Xfed q763 hc) (cw_M_175 hts ⟨Nat.le_of_ble_eq_true rfl, Nat.le_of_ble_eq_true rfl⟩) ⟨zbM, va_recv hK hP (ci := 7) rfl hN_X, (zpM hP hK hZ hD)⟩ rfl rfl hl.1 rfl (lv_room (Nat.le_of_ble_eq_true rfl)) d_M_readBlock_11 ⟨Nat.zero_le _, Nat.zero_le _⟩) hS (fun q _ h => hFc q h) hFc (fun rv ws t H locs ht hvm hu hB hz1 hk1 hS => ?_)
  obtain ⟨hv, hN_X, hfr⟩ := hu
  subst hv
  obtain ⟨hP, -, hD1⟩ := hB
  rw [ht] at hP
  have hD := hD1.weaken (fun _ _ _ h => hFc _ h)
  have hN_X : zA ws 21 (aX, .inr (7, [.int X_code, .int X_side, .ref aXpicture, .ref aXhalf, .int X_many, .ref aXblocks, .int X_found, .int X_encodedBits, .ref aXencoded, .int X_fedMany, .ref aXfed, .int q763.2.1, .int q763.2.2, .int X_tried, .int X_waiting, .ref aXpile, .int X_decoded, .ref aXnews, .ref aXolds, .ref aXhalves, .ref aXds, .ref aXrs, .ref aXbest, .long X_bestError])) := hN_X
  have hN_Xblocks := (hfr _ (by decide)).trans hN_Xblocks
  have hN_Xfed := (hfr _ (by decide)).trans hN_Xfed
  have hN_Xbest := (hfr _ (by decide)).trans hN_Xbest
  have hw := z_frC (by decide) hw hfr
  obtain ⟨hin, hf⟩ := z_no hf
  refine z_iast hx hb hK hP hD hS hN_Xbest rfl hin d_M_readBlock_14 (fun ws H locs hP hD hS hN_Xbest hfr => ?_)
  have hN_Xbest : zA ws 33 (aXbest, .inl (cI, Xbest_n, .inl (upd Xbest_f (0 : Int32).toNatClampNeg q763.1))) := hN_Xbest
  have hN_X := (hfr _ (by decide)).trans hN_X
  have hN_Xblocks := (hfr _ (by decide)).trans hN_Xblocks
  have hN_Xfed := (hfr _ (by decide)).trans hN_Xfed
  have hw := z_fr (by decide) hw hfr
  refine lv_aload_n hx hb d_M_readBlock_15 rfl (lv_at hl 0 rfl) ?_
  refine lv_aload_n hx hb d_M_readBlock_16 rfl (lv_at hl 0 rfl) ?_
  refine gf_M_166 (v := .int q763.2.2) hx hb hts hown hK hP hN_X rfl d_M_readBlock_17 ?_
  have jp51_769 : ∀ (s0_768 : Int32) (ls : Array Slot) (hf : f_M_readBlock_J51 x1 x2 x3 X_found X_fedMany q763.2.1 q763.2.2 Xblocks_n Xblocks_f Xfed_n Xfed_f Xbest_n (upd Xbest_f (0 : Int32).toNatClampNeg q763.1) s0_768 = some r) (hl : lv_has ls 4 [(0, .ref aX), (1, .int x1), (2, .int x2), (3, .int x3)]), W p l e (headSpec w_M_readBlock rm_M_readBlock).room s m ([.ref aX, .int x1, .int x2, .int x3] : List Value).toArray below meth c H locs 0 0 (MQ below (va_Qv (fun ws' : va_W => zA ws' 21 (aX, .inr (7, [.int X_code, .int X_side, .ref aXpicture, .ref aXhalf, .int X_many, .ref aXblocks, .int r.1, .int X_encodedBits, .ref aXencoded, .int X_fedMany, .ref aXfed, .int r.2.1, .int r.2.2.1, .int X_tried, .int X_waiting, .ref aXpile, .int X_decoded, .ref aXnews, .ref aXolds, .ref aXhalves, .ref aXds, .ref aXrs, .ref aXbest, .long X_bestError])) ∧ zA ws' 24 (aXblocks, .inl (cI, Xblocks_n, .inl r.2.2.2.1)) ∧ zA ws' 33 (aXbest, .inl (cI, Xbest_n, .inl r.2.2.2.2)) ∧ ∀ (j : Nat), j ∉ ([21, 24, 33] : List Nat) → ws'[j]? = ws0[j]?) (zQ dC dI cI cL A) A) ([.ref aX, .int x1, .int x2, .int x3] : List Value).toArray s 0 0 A) (F0 m 51 ls [.int s0_768, .ref aX]) := by
    intro s0_768 ls hf hl
    unfold f_M_readBlock_J51 at hf
    refine pf_M_166 (v := .int s0_768) hx hb hts hown hK hP hD hS hN_X rfl rfl (Nat.le_of_ble_eq_true rfl) d_M_readBlock_51 (fun ws H locs hP hD hS hN_X hfr => ?_)
    have hN_X : zA ws 21 (aX, .inr (7, [.int X_code, .int X_side, .ref aXpicture, .ref aXhalf, .int X_many, .ref aXblocks, .int X_found, .int X_encodedBits, .ref aXencoded, .int X_fedMany, .ref aXfed, .int q763.2.1, .int s0_768, .int X_tried, .int X_waiting, .ref aXpile, .int X_decoded, .ref aXnews, .ref aXolds, .ref aXhalves, .ref aXds, .ref aXrs, .ref aXbest, .long X_bestError])) := hN_X
    have hN_Xblocks := (hfr _ (by decide)).trans hN_Xblocks
    have hN_Xfed := (hfr _ (by decide)).trans hN_Xfed
    have hN_Xbest := (hfr _ (by decide)).trans hN_Xbest
    have hw := z_fr (by decide) hw hfr
    refine lv_aload_n hx hb d_M_readBlock_54 rfl (lv_at hl 0 rfl) ?_
    refine gf_M_43 (v := .ref aXbest) hx hb hts hown hK hP hN_X rfl d_M_readBlock_55 ?_
    refine lv_iconst (v := 1) hx hb d_M_readBlock_58 (by decide) ?_
    refine lv_aload_n hx hb d_M_readBlock_59 rfl (lv_at hl 0 rfl) ?_
    refine lv_iconst (v := 3) hx hb d_M_readBlock_60 (by decide) ?_
    obtain ⟨q770, hc, hf⟩ := z_b hf
    have hFc := z_free hD hS hA
    refine va_calli (va_runV (As := [.int (3 : Int32)]) (rest := [.int (1 : Int32), .ref aXbest]) ⟨hx, hb, hml, hown, hts⟩ (c_M_take l dC dI cI cL _ (3 : Int32) hN_X hN_Xfed q770 hc) (cw_M_175 hts ⟨Nat.le_of_ble_eq_true rfl, Nat.le_of_ble_eq_true rfl⟩) ⟨zbM, va_recv hK hP (ci := 7) rfl hN_X, (zpM hP hK hZ hD)⟩ rfl rfl hl.1 rfl (lv_room (Nat.le_of_ble_eq_true rfl)) d_M_readBlock_61 ⟨Nat.zero_le _, Nat.zero_le _⟩) hS (fun q _ h => hFc q h) hFc (fun rv ws t H locs ht hvm hu hB hz1 hk1 hS => ?_)
    obtain ⟨hv, hN_X, hfr⟩ := hu
    subst hv
    obtain ⟨hP, -, hD1⟩ := hB
    rw [ht] at hP
    have hD := hD1.weaken (fun _ _ _ h => hFc _ h)
    have hN_X : zA ws 21 (aX, .inr (7, [.int X_code, .int X_side, .ref aXpicture, .ref aXhalf, .int X_many, .ref aXblocks, .int X_found, .int X_encodedBits, .ref aXencoded, .int X_fedMany, .ref aXfed, .int q770.2.1, .int q770.2.2, .int X_tried, .int X_waiting, .ref aXpile, .int X_decoded, .ref aXnews, .ref aXolds, .ref aXhalves, .ref aXds, .ref aXrs, .ref aXbest, .long X_bestError])) := hN_X
    have hN_Xblocks := (hfr _ (by decide)).trans hN_Xblocks
    have hN_Xfed := (hfr _ (by decide)).trans hN_Xfed
    have hN_Xbest := (hfr _ (by decide)).trans hN_Xbest
    have hw := z_frC (by decide) hw hfr
    obtain ⟨hin, hf⟩ := z_no hf
    refine z_iast hx hb hK hP hD hS hN_Xbest rfl hin d_M_readBlock_64 (fun ws H locs hP hD hS hN_Xbest hfr => ?_)
    have hN_Xbest : zA ws 33 (aXbest, .inl (cI, Xbest_n, .inl (upd (upd Xbest_f (0 : Int32).toNatClampNeg q763.1) (1 : Int32).toNatClampNeg q770.1))) := hN_Xbest
    have hN_X := (hfr _ (by decide)).trans hN_X
    have hN_Xblocks := (hfr _ (by decide)).trans hN_Xblocks
    have hN_Xfed := (hfr _ (by decide)).trans hN_Xfed
    have hw := z_fr (by decide) hw hfr
    refine lv_aload_n hx hb d_M_readBlock_65 rfl (lv_at hl 0 rfl) ?_
    refine gf_M_43 (v := .ref aXbest) hx hb hts hown hK hP hN_X rfl d_M_readBlock_66 ?_
    refine lv_iconst (v := 2) hx hb d_M_readBlock_69 (by decide) ?_
    refine lv_aload_n hx hb d_M_readBlock_70 rfl (lv_at hl 0 rfl) ?_
    refine lv_iconst (v := 4) hx hb d_M_readBlock_71 (by decide) ?_
    obtain ⟨q771, hc, hf⟩ := z_b hf
    have hFc := z_free hD hS hA
    refine va_calli (va_runV (As := [.int (4 : Int32)]) (rest := [.int (2 : Int32), .ref aXbest]) ⟨hx, hb, hml, hown, hts⟩ (c_M_take l dC dI cI cL _ (4 : Int32) hN_X hN_Xfed q771 hc) (cw_M_175 hts ⟨Nat.le_of_ble_eq_true rfl, Nat.le_of_ble_eq_true rfl⟩) ⟨zbM, va_recv hK hP (ci := 7) rfl hN_X, (zpM hP hK hZ hD)⟩ rfl rfl hl.1 rfl (lv_room (Nat.le_of_ble_eq_true rfl)) d_M_readBlock_72 ⟨Nat.zero_le _, Nat.zero_le _⟩) hS (fun q _ h => hFc q h) hFc (fun rv ws t H locs ht hvm hu hB hz1 hk1 hS => ?_)
    obtain ⟨hv, hN_X, hfr⟩ := hu
    subst hv
    obtain ⟨hP, -, hD1⟩ := hB
    rw [ht] at hP
    have hD := hD1.weaken (fun _ _ _ h => hFc _ h)
    have hN_X : zA ws 21 (aX, .inr (7, [.int X_code, .int X_side, .ref aXpicture, .ref aXhalf, .int X_many, .ref aXblocks, .int X_found, .int X_encodedBits, .ref aXencoded, .int X_fedMany, .ref aXfed, .int q771.2.1, .int q771.2.2, .int X_tried, .int X_waiting, .ref aXpile, .int X_decoded, .ref aXnews, .ref aXolds, .ref aXhalves, .ref aXds, .ref aXrs, .ref aXbest, .long X_bestError])) := hN_X
    have hN_Xblocks := (hfr _ (by decide)).trans hN_Xblocks
    have hN_Xfed := (hfr _ (by decide)).trans hN_Xfed
    have hN_Xbest := (hfr _ (by decide)).trans hN_Xbest
    have hw := z_frC (by decide) hw hfr
    refine lv_bipush (v := 7) hx hb d_M_readBlock_75 (by decide) ?_
    refine lv_isub hx hb d_M_readBlock_77 ?_
    obtain ⟨hin, hf⟩ := z_no hf
    refine z_iast hx hb hK hP hD hS hN_Xbest rfl hin d_M_readBlock_78 (fun ws H locs hP hD hS hN_Xbest hfr => ?_)
    have hN_Xbest : zA ws 33 (aXbest, .inl (cI, Xbest_n, .inl (upd (upd (upd Xbest_f (0 : Int32).toNatClampNeg q763.1) (1 : Int32).toNatClampNeg q770.1) (2 : Int32).toNatClampNeg (q771.1 - (7 : Int32))))) := hN_Xbest
    have hN_X := (hfr _ (by decide)).trans hN_X
    have hN_Xblocks := (hfr _ (by decide)).trans hN_Xblocks
    have hN_Xfed := (hfr _ (by decide)).trans hN_Xfed
    have hw := z_fr (by decide) hw hfr
    refine lv_aload_n hx hb d_M_readBlock_79 rfl (lv_at hl 0 rfl) ?_
    refine lv_aload_n hx hb d_M_readBlock_80 rfl (lv_at hl 0 rfl) ?_
    refine gf_M_166 (v := .int q771.2.2) hx hb hts hown hK hP hN_X rfl d_M_readBlock_81 ?_
    have jp106_773 : ∀ (s0_772 : Int32) (ls : Array Slot) (hf : f_M_readBlock_J106 x1 x2 x3 X_found X_fedMany q771.2.1 q771.2.2 Xblocks_n Xblocks_f Xfed_n Xfed_f Xbest_n (upd (upd (upd Xbest_f (0 : Int32).toNatClampNeg q763.1) (1 : Int32).toNatClampNeg q770.1) (2 : Int32).toNatClampNeg (q771.1 - (7 : Int32))) s0_772 = some r) (hl : lv_has ls 4 [(0, .ref aX), (1, .int x1), (2, .int x2), (3, .int x3)]), W p l e (headSpec w_M_readBlock rm_M_readBlock).room s m ([.ref aX, .int x1, .int x2, .int x3] : List Value).toArray below meth c H locs 0 0 (MQ below (va_Qv (fun ws' : va_W => zA ws' 21 (aX, .inr (7, [.int X_code, .int X_side, .ref aXpicture, .ref aXhalf, .int X_many, .ref aXblocks, .int r.1, .int X_encodedBits, .ref aXencoded, .int X_fedMany, .ref aXfed, .int r.2.1, .int r.2.2.1, .int X_tried, .int X_waiting, .ref aXpile, .int X_decoded, .ref aXnews, .ref aXolds, .ref aXhalves, .ref aXds, .ref aXrs, .ref aXbest, .long X_bestError])) ∧ zA ws' 24 (aXblocks, .inl (cI, Xblocks_n, .inl r.2.2.2.1)) ∧ zA ws' 33 (aXbest, .inl (cI, Xbest_n, .inl r.2.2.2.2)) ∧ ∀ (j : Nat), j ∉ ([21, 24, 33] : List Nat) → ws'[j]? = ws0[j]?) (zQ dC dI cI cL A) A) ([.ref aX, .int x1, .int x2, .int x3] : List Value).toArray s 0 0 A) (F0 m 106 ls [.int s0_772, .ref aX]) := by
      intro s0_772 ls hf hl
      unfold f_M_readBlock_J106 at hf
      refine pf_M_166 (v := .int s0_772) hx hb hts hown hK hP hD hS hN_X rfl rfl (Nat.le_of_ble_eq_true rfl) d_M_readBlock_106 (fun ws H locs hP hD hS hN_X hfr => ?_)
      have hN_X : zA ws 21 (aX, .inr (7, [.int X_code, .int X_side, .ref aXpicture, .ref aXhalf, .int X_many, .ref aXblocks, .int X_found, .int X_encodedBits, .ref aXencoded, .int X_fedMany, .ref aXfed, .int q771.2.1, .int s0_772, .int X_tried, .int X_waiting, .ref aXpile, .int X_decoded, .ref aXnews, .ref aXolds, .ref aXhalves, .ref aXds, .ref aXrs, .ref aXbest, .long X_bestError])) := hN_X
      have hN_Xblocks := (hfr _ (by decide)).trans hN_Xblocks
      have hN_Xfed := (hfr _ (by decide)).trans hN_Xfed
      have hN_Xbest := (hfr _ (by decide)).trans hN_Xbest
      have hw := z_fr (by decide) hw hfr
      refine lv_aload_n hx hb d_M_readBlock_109 rfl (lv_at hl 0 rfl) ?_
      refine gf_M_43 (v := .ref aXbest) hx hb hts hown hK hP hN_X rfl d_M_readBlock_110 ?_
      refine lv_iconst (v := 3) hx hb d_M_readBlock_113 (by decide) ?_
      refine lv_aload_n hx hb d_M_readBlock_114 rfl (lv_at hl 0 rfl) ?_
      refine lv_bipush (v := 10) hx hb d_M_readBlock_115 (by decide) ?_
      obtain ⟨q774, hc, hf⟩ := z_b hf
      have hFc := z_free hD hS hA
      refine va_calli (va_runV (As := [.int (10 : Int32)]) (rest := [.int (3 : Int32), .ref aXbest]) ⟨hx, hb, hml, hown, hts⟩ (c_M_take l dC dI cI cL _ (10 : Int32) hN_X hN_Xfed q774 hc) (cw_M_175 hts ⟨Nat.le_of_ble_eq_true rfl, Nat.le_of_ble_eq_true rfl⟩) ⟨zbM, va_recv hK hP (ci := 7) rfl hN_X, (zpM hP hK hZ hD)⟩ rfl rfl hl.1 rfl (lv_room (Nat.le_of_ble_eq_true rfl)) d_M_readBlock_117 ⟨Nat.zero_le _, Nat.zero_le _⟩) hS (fun q _ h => hFc q h) hFc (fun rv ws t H locs ht hvm hu hB hz1 hk1 hS => ?_)
      obtain ⟨hv, hN_X, hfr⟩ := hu
      subst hv
      obtain ⟨hP, -, hD1⟩ := hB
      rw [ht] at hP
      have hD := hD1.weaken (fun _ _ _ h => hFc _ h)
      have hN_X : zA ws 21 (aX, .inr (7, [.int X_code, .int X_side, .ref aXpicture, .ref aXhalf, .int X_many, .ref aXblocks, .int X_found, .int X_encodedBits, .ref aXencoded, .int X_fedMany, .ref aXfed, .int q774.2.1, .int q774.2.2, .int X_tried, .int X_waiting, .ref aXpile, .int X_decoded, .ref aXnews, .ref aXolds, .ref aXhalves, .ref aXds, .ref aXrs, .ref aXbest, .long X_bestError])) := hN_X
      have hN_Xblocks := (hfr _ (by decide)).trans hN_Xblocks
      have hN_Xfed := (hfr _ (by decide)).trans hN_Xfed
      have hN_Xbest := (hfr _ (by decide)).trans hN_Xbest
      have hw := z_frC (by decide) hw hfr
      refine lv_sipush (v := 256) hx hb d_M_readBlock_120 (by decide) ?_
      refine lv_isub hx hb d_M_readBlock_123 ?_
      obtain ⟨hin, hf⟩ := z_no hf
      refine z_iast hx hb hK hP hD hS hN_Xbest rfl hin d_M_readBlock_124 (fun ws H locs hP hD hS hN_Xbest hfr => ?_)
      have hN_Xbest : zA ws 33 (aXbest, .inl (cI, Xbest_n, .inl (upd (upd (upd (upd Xbest_f (0 : Int32).toNatClampNeg q763.1) (1 : Int32).toNatClampNeg q770.1) (2 : Int32).toNatClampNeg (q771.1 - (7 : Int32))) (3 : Int32).toNatClampNeg (q774.1 - (256 : Int32))))) := hN_Xbest
      have hN_X := (hfr _ (by decide)).trans hN_X
      have hN_Xblocks := (hfr _ (by decide)).trans hN_Xblocks
      have hN_Xfed := (hfr _ (by decide)).trans hN_Xfed
      have hw := z_fr (by decide) hw hfr
      refine lv_aload_n hx hb d_M_readBlock_125 rfl (lv_at hl 0 rfl) ?_
      refine gf_M_166 (v := .int q774.2.2) hx hb hts hown hK hP hN_X rfl d_M_readBlock_126 ?_
      refine lv_if_ge (tgt := 140) hx hb d_M_readBlock_129 (by decide) (fun hc => ?_) (fun hc => ?_)
      · have hf := z_t hc hf
        obtain rfl := Option.some.inj hf
        exact W.vret hx hb hr (fun t ht hW => ⟨⟨ws, rfl, ⟨hN_X, hN_Xblocks, hN_Xbest, hw⟩, by rw [ht]; exact hP, va_K.moved hW.alike hK, hD⟩, hS.F ht⟩) hS.2.2 d_M_readBlock_140
      · have hf := z_f hc hf
        refine lv_aload_n hx hb d_M_readBlock_132 rfl (lv_at hl 0 rfl) ?_
        refine lv_iload_n hx hb d_M_readBlock_133 rfl (lv_at hl 1 rfl) ?_
        refine lv_iload_n hx hb d_M_readBlock_134 rfl (lv_at hl 2 rfl) ?_
        refine lv_iload_n hx hb d_M_readBlock_135 rfl (lv_at hl 3 rfl) ?_
        refine lv_iconst (v := (-1)) hx hb d_M_readBlock_136 (by decide) ?_
        obtain ⟨q775, hc, hf⟩ := z_b hf
        have hFc := z_free hD hS hA
        refine va_callv (va_runV (As := [.int x1, .int x2, .int x3, .int ((-1) : Int32)]) (rest := []) ⟨hx, hb, hml, hown, hts⟩ (c_M_note l dC dI cI cL _ x1 x2 x3 ((-1) : Int32) hN_X hN_Xblocks hN_Xbest q775 hc) (cw_M_147 hts ⟨Nat.le_of_ble_eq_true rfl, Nat.le_of_ble_eq_true rfl⟩) ⟨zbM, va_recv hK hP (ci := 7) rfl hN_X, (zpM hP hK hZ hD)⟩ rfl rfl hl.1 rfl (lv_room (Nat.le_of_ble_eq_true rfl)) d_M_readBlock_137 ⟨Nat.zero_le _, Nat.zero_le _⟩) hS (fun q _ h => hFc q h) hFc (fun ws t H locs ht hvm hu hB hz1 hk1 hS => ?_)
        obtain ⟨hN_X, hN_Xblocks, hfr⟩ := hu
        obtain ⟨hP, -, hD1⟩ := hB
        rw [ht] at hP
        have hD := hD1.weaken (fun _ _ _ h => hFc _ h)
        have hN_X : zA ws 21 (aX, .inr (7, [.int X_code, .int X_side, .ref aXpicture, .ref aXhalf, .int X_many, .ref aXblocks, .int q775.1, .int X_encodedBits, .ref aXencoded, .int X_fedMany, .ref aXfed, .int q774.2.1, .int q774.2.2, .int X_tried, .int X_waiting, .ref aXpile, .int X_decoded, .ref aXnews, .ref aXolds, .ref aXhalves, .ref aXds, .ref aXrs, .ref aXbest, .long X_bestError])) := hN_X
        have hN_Xblocks : zA ws 24 (aXblocks, .inl (cI, Xblocks_n, .inl q775.2)) := hN_Xblocks
        have hN_Xfed := (hfr _ (by decide)).trans hN_Xfed
        have hN_Xbest := (hfr _ (by decide)).trans hN_Xbest
        have hw := z_frC (by decide) hw hfr
        obtain rfl := Option.some.inj hf
        exact W.vret hx hb hr (fun t ht hW => ⟨⟨ws, rfl, ⟨hN_X, hN_Xblocks, hN_Xbest, hw⟩, by rw [ht]; exact hP, va_K.moved hW.alike hK, hD⟩, hS.F ht⟩) hS.2.2 d_M_readBlock_140
    refine lv_if_ge (tgt := 102) hx hb d_M_readBlock_84 (by decide) (fun hc => ?_) (fun hc => ?_)
    · have hf := z_t hc hf
      refine lv_aload_n hx hb d_M_readBlock_102 rfl (lv_at hl 0 rfl) ?_
      refine gf_M_166 (v := .int q771.2.2) hx hb hts hown hK hP hN_X rfl d_M_readBlock_103 ?_
      exact jp106_773 q771.2.2 ls hf (lv_sub hl [0, 1, 2, 3] rfl)
    · have hf := z_f hc hf
      refine lv_aload_n hx hb d_M_readBlock_87 rfl (lv_at hl 0 rfl) ?_
      refine gf_M_43 (v := .ref aXbest) hx hb hts hown hK hP hN_X rfl d_M_readBlock_88 ?_
      refine lv_iconst (v := 2) hx hb d_M_readBlock_91 (by decide) ?_
      obtain ⟨hin, hf⟩ := z_no hf
      refine va_iald hx hb hK hP _ 0 hN_Xbest rfl hin d_M_readBlock_92 ?_
      refine lv_bipush (v := 7) hx hb d_M_readBlock_93 (by decide) ?_
      refine lv_icmp_le (tgt := 102) hx hb d_M_readBlock_95 (by decide) (fun hc => ?_) (fun hc => ?_)
      · have hf := z_t hc hf
        refine lv_aload_n hx hb d_M_readBlock_102 rfl (lv_at hl 0 rfl) ?_
        refine gf_M_166 (v := .int q771.2.2) hx hb hts hown hK hP hN_X rfl d_M_readBlock_103 ?_
        exact jp106_773 q771.2.2 ls hf (lv_sub hl [0, 1, 2, 3] rfl)
      · have hf := z_f hc hf
        refine lv_iconst (v := 2) hx hb d_M_readBlock_98 (by decide) ?_
        refine lv_goto (tgt := 106) hx hb d_M_readBlock_99 (by decide) ?_
        exact jp106_773 (2 : Int32) ls hf (lv_sub hl [0, 1, 2, 3] rfl)
  refine lv_if_ge (tgt := 47) hx hb d_M_readBlock_20 (by decide) (fun hc => ?_) (fun hc => ?_)
  · have hf := z_t hc hf
    refine lv_aload_n hx hb d_M_readBlock_47 rfl (lv_at hl 0 rfl) ?_
    refine gf_M_166 (v := .int q763.2.2) hx hb hts hown hK hP hN_X rfl d_M_readBlock_48 ?_
    exact jp51_769 q763.2.2 ls hf (lv_sub hl [0, 1, 2, 3] rfl)
  · have hf := z_f hc hf
    refine lv_aload_n hx hb d_M_readBlock_23 rfl (lv_at hl 0 rfl) ?_
    refine gf_M_43 (v := .ref aXbest) hx hb hts hown hK hP hN_X rfl d_M_readBlock_24 ?_
    refine lv_iconst (v := 0) hx hb d_M_readBlock_27 (by decide) ?_
    obtain ⟨hin, hf⟩ := z_no hf
    refine va_iald hx hb hK hP _ 0 hN_Xbest rfl hin d_M_readBlock_28 ?_
    refine lv_aload_n hx hb d_M_readBlock_29 rfl (lv_at hl 0 rfl) ?_
    refine lv_iload_n hx hb d_M_readBlock_30 rfl (lv_at hl 3 rfl) ?_
    obtain ⟨q776, hc, hf⟩ := z_b hf
    refine vp_callSi (z_cr (va_runV (As := [.int x3]) (rest := [.int ((upd Xbest_f (0 : Int32).toNatClampNeg q763.1) (0 : Int32).toNatClampNeg), .ref aX]) ⟨hx, hb, hml, hown, hts⟩ (c_M_domains l dC dI cI cL x3 hN_X q776 hc) (cw_M_69 hts ⟨Nat.le_of_ble_eq_true rfl, Nat.le_of_ble_eq_true rfl⟩) ⟨zbR, va_recv hK hP (ci := 7) rfl hN_X, (zpR hP hK hZ)⟩ rfl rfl hl.1 rfl (lv_room (Nat.le_of_ble_eq_true rfl)) d_M_readBlock_31 ⟨Nat.zero_le _, Nat.zero_le _⟩)) (fun r777 hv => ?_)
    have hv := hv.symm
    subst hv
    refine lv_aload_n hx hb d_M_readBlock_34 rfl (lv_at hl 0 rfl) ?_
    refine lv_iload_n hx hb d_M_readBlock_35 rfl (lv_at hl 3 rfl) ?_
    obtain ⟨q778, hc, hf⟩ := z_b hf
    refine vp_callSi (z_cr (va_runV (As := [.int x3]) (rest := [.int q776, .int ((upd Xbest_f (0 : Int32).toNatClampNeg q763.1) (0 : Int32).toNatClampNeg), .ref aX]) ⟨hx, hb, hml, hown, hts⟩ (c_M_domains l dC dI cI cL x3 hN_X q778 hc) (cw_M_69 hts ⟨Nat.le_of_ble_eq_true rfl, Nat.le_of_ble_eq_true rfl⟩) ⟨zbR, va_recv hK hP (ci := 7) rfl hN_X, (zpR hP hK hZ)⟩ rfl rfl hl.1 rfl (lv_room (Nat.le_of_ble_eq_true rfl)) d_M_readBlock_36 ⟨Nat.zero_le _, Nat.zero_le _⟩)) (fun r779 hv => ?_)
    have hv := hv.symm
    subst hv
    refine lv_imul hx hb d_M_readBlock_39 ?_
    refine lv_icmp_lt (tgt := 47) hx hb d_M_readBlock_40 (by decide) (fun hc => ?_) (fun hc => ?_)
    · have hf := z_t hc hf
      refine lv_aload_n hx hb d_M_readBlock_47 rfl (lv_at hl 0 rfl) ?_
      refine gf_M_166 (v := .int q763.2.2) hx hb hts hown hK hP hN_X rfl d_M_readBlock_48 ?_
      exact jp51_769 q763.2.2 ls hf (lv_sub hl [0, 1, 2, 3] rfl)
    · have hf := z_f hc hf
      refine lv_iconst (v := 1) hx hb d_M_readBlock_43 (by decide) ?_
      refine lv_goto (tgt := 51) hx hb d_M_readBlock_44 (by decide) ?_
      exact jp51_769 (1 : Int32) ls hf (lv_sub hl [0, 1, 2, 3] rfl)
def f_M_takeFound_2 (X_found : Int32) (Xblocks_n : Nat) : Nat → Int32 → (Nat → Int32) → Option (Int32 × (Nat → Int32))
  | 0, _, _ => none
  | n + 1, v1, Xblocks_f => if ((8 : Int32) * X_found) ≤ v1 then (some (v1, Xblocks_f)) else (if ((2048 : Int32) + v1) < 0 ∨ Xblocks_n ≤ ((2048 : Int32) + v1).toNatClampNeg then none else (if v1 < 0 ∨ Xblocks_n ≤ v1.toNatClampNeg then none else (f_M_takeFound_2 X_found Xblocks_n n (v1 + 1) (upd Xblocks_f v1.toNatClampNeg (Xblocks_f ((2048 : Int32) + v1).toNatClampNeg)))))
def f_M_takeFound (X_found : Int32) (Xblocks_n : Nat) (Xblocks_f : Nat → Int32) : Option (Int32 × (Nat → Int32)) := (f_M_takeFound_2 X_found Xblocks_n FU (0 : Int32) Xblocks_f).bind (fun q780 => some (X_found, q780.2))
set_option maxHeartbeats 4000000 in
set_option maxRecDepth 100000 in
theorem c_M_takeFound (l : Launch) (dC : Nat → ClassId) (dI : Nat → Nat → Nat) (cI cL : ClassId) {ws0 : va_W} (sz : Nat) {aX aXpicture aXhalf aXblocks aXencoded aXfed aXpile aXnews aXolds aXhalves aXds aXrs aXbest : Nat} {X_code X_side X_many X_found X_encodedBits X_fedMany X_readAt X_why X_tried X_waiting X_decoded : Int32} {X_bestError : Int64} {Xblocks_n : Nat} {Xblocks_f : Nat → Int32} (hN_X : zA ws0 21 (aX, .inr (7, [.int X_code, .int X_side, .ref aXpicture, .ref aXhalf, .int X_many, .ref aXblocks, .int X_found, .int X_encodedBits, .ref aXencoded, .int X_fedMany, .ref aXfed, .int X_readAt, .int X_why, .int X_tried, .int X_waiting, .ref aXpile, .int X_decoded, .ref aXnews, .ref aXolds, .ref aXhalves, .ref aXds, .ref aXrs, .ref aXbest, .long X_bestError]))) (hN_Xblocks : zA ws0 24 (aXblocks, .inl (cI, Xblocks_n, .inl Xblocks_f))) (r : Int32 × (Nat → Int32)) (hf : f_M_takeFound X_found Xblocks_n Xblocks_f = some r) : Met l y_M_takeFound w_M_takeFound rm_M_takeFound (va_Pc [.ref aX] (zM dC dI cI cL ws0 sz)) (va_Qv (fun ws' : va_W => zA ws' 21 (aX, .inr (7, [.int X_code, .int X_side, .ref aXpicture, .ref aXhalf, .int r.1, .ref aXblocks, .int X_found, .int X_encodedBits, .ref aXencoded, .int X_fedMany, .ref aXfed, .int X_readAt, .int X_why, .int X_tried, .int X_waiting, .ref aXpile, .int X_decoded, .ref aXnews, .ref aXolds, .ref aXhalves, .ref aXds, .ref aXrs, .ref aXbest, .long X_bestError])) ∧ zA ws' 24 (aXblocks, .inl (cI, Xblocks_n, .inl r.2)) ∧ ∀ (j : Nat), j ∉ ([21, 24] : List Nat) → ws'[j]? = ws0[j]?) (zQ dC dI cI cL (va_A ws0 sz)) (va_A ws0 sz)) 0 0 (va_A ws0 sz) := by
  refine Met.ofW (cc := b_M_takeFound) (maxL := 2) (ret := none) (by decide) rfl ?_
  intro p e s m args below meth c s₁ B hml hv
  obtain ⟨rfl, hsz, hP, hK, hZ, hD0⟩ := hv
  have hx := B.exec
  have hb := B.bytes
  have hr := B.returns
  have hlocks := B.notSynchronized
  have hts : ∀ w ∈ BIG, w.before ([.ref aX] : List Value).toArray s = true := fun w h => atoms_spec (ws := w_M_takeFound) B.pre w (List.mem_cons_of_mem _ h)
  have hown : s.vm.findClass "FractalMapsModel" = some m.cls := findClass_of_methodNamed B.named
  subst hsz
  have hD := hD0.self (sz := s.heap.size)
  generalize hAe : va_A ws0 s.heap.size = A at hD ⊢
  have hA : ∀ q : Nat, s.heap.size ≤ q → A q := fun q h => by rw [← hAe]; exact Or.inr h
  have hS : va_S A s.heap s.heap [] := va_S.rf
  have hw : ∀ (j : Nat), j ∉ ([21, 24] : List Nat) → ws0[j]? = ws0[j]? := fun _ _ => rfl
  have hl := lv_entry ([.ref aX]) (n := 2) (Nat.le_of_ble_eq_true rfl)
  rw [lg_entry_eq]
  generalize (lg_sl ([.ref aX]) ++ List.replicate (2 - (lg_sl ([.ref aX])).length) Slot.unset).toArray = ls at hl ⊢
  have hl : lv_has ls 2 [(0, .ref aX)] := hl
  unfold f_M_takeFound at hf
  refine lv_iconst (v := 0) hx hb d_M_takeFound_0 (by decide) ?_
  refine lv_istore_n (lv' := [(1, .int (0 : Int32)), (0, .ref aX)]) hx hb d_M_takeFound_1 rfl hl (by decide) rfl (fun ls hl => ?_)
  have lp783 : ∀ (Qx : State → Prop) (n : Nat) (v1_781 : Int32) (Xblocks_f_782 : Nat → Int32) (ws : va_W) (H : Heap) (locs : List Loc) (ls : Array Slot) (q : Int32 × (Nat → Int32)) (hf : f_M_takeFound_2 X_found Xblocks_n n v1_781 Xblocks_f_782 = some q) (hl : lv_has ls 2 [(0, .ref aX), (1, .int v1_781)]) (hP : va_P (dC, dI) classes ws H) (hD : va_D A ws) (hS : va_S A s.heap H locs) (hN_X : zA ws 21 (aX, .inr (7, [.int X_code, .int X_side, .ref aXpicture, .ref aXhalf, .int X_many, .ref aXblocks, .int X_found, .int X_encodedBits, .ref aXencoded, .int X_fedMany, .ref aXfed, .int X_readAt, .int X_why, .int X_tried, .int X_waiting, .ref aXpile, .int X_decoded, .ref aXnews, .ref aXolds, .ref aXhalves, .ref aXds, .ref aXrs, .ref aXbest, .long X_bestError]))) (hN_Xblocks : zA ws 24 (aXblocks, .inl (cI, Xblocks_n, .inl Xblocks_f_782))) (hw : ∀ (j : Nat), j ∉ ([21, 24] : List Nat) → ws[j]? = ws0[j]?) (kt0 : ∀ (ws : va_W) (H : Heap) (locs : List Loc) (ls : Array Slot), lv_has ls 2 [(0, .ref aX), (1, .int q.1)] → (va_P (dC, dI) classes ws H) → (va_D A ws) → (va_S A s.heap H locs) → (zA ws 21 (aX, .inr (7, [.int X_code, .int X_side, .ref aXpicture, .ref aXhalf, .int X_many, .ref aXblocks, .int X_found, .int X_encodedBits, .ref aXencoded, .int X_fedMany, .ref aXfed, .int X_readAt, .int X_why, .int X_tried, .int X_waiting, .ref aXpile, .int X_decoded, .ref aXnews, .ref aXolds, .ref aXhalves, .ref aXds, .ref aXrs, .ref aXbest, .long X_bestError]))) → (zA ws 24 (aXblocks, .inl (cI, Xblocks_n, .inl q.2))) → (∀ (j : Nat), j ∉ ([21, 24] : List Nat) → ws[j]? = ws0[j]?) → W p l e (headSpec w_M_takeFound rm_M_takeFound).room s m ([.ref aX] : List Value).toArray below meth c H locs 0 0 Qx (F0 m 35 ls [])), W p l e (headSpec w_M_takeFound rm_M_takeFound).room s m ([.ref aX] : List Value).toArray below meth c H locs 0 0 Qx (F0 m 2 ls []) := by
    intro Qx n
    induction n with
    | zero => intro v1_781 Xblocks_f_782 ws H locs ls q hf; cases hf
    | succ n ih =>
      intro v1_781 Xblocks_f_782 ws H locs ls q hf hl hP hD hS hN_X hN_Xblocks hw kt0
      rw [f_M_takeFound_2] at hf
      refine lv_iload_n hx hb d_M_takeFound_2 rfl (lv_at hl 1 rfl) ?_
      refine lv_bipush (v := 8) hx hb d_M_takeFound_3 (by decide) ?_
      refine lv_aload_n hx hb d_M_takeFound_5 rfl (lv_at hl 0 rfl) ?_
      refine gf_M_120 (v := .int X_found) hx hb hts hown hK hP hN_X rfl d_M_takeFound_6 ?_
      refine lv_imul hx hb d_M_takeFound_9 ?_
      refine lv_icmp_ge (tgt := 35) hx hb d_M_takeFound_10 (by decide) (fun hc => ?_) (fun hc => ?_)
      · have hf := z_t hc hf
        obtain rfl := Option.some.inj hf
        exact kt0 _ _ _ ls (lv_sub hl [0, 1] rfl) hP hD hS hN_X hN_Xblocks hw
      · have hf := z_f hc hf
        refine lv_aload_n hx hb d_M_takeFound_13 rfl (lv_at hl 0 rfl) ?_
        refine gf_M_16 (v := .ref aXblocks) hx hb hts hown hK hP hN_X rfl d_M_takeFound_14 ?_
        refine lv_iload_n hx hb d_M_takeFound_17 rfl (lv_at hl 1 rfl) ?_
        refine lv_aload_n hx hb d_M_takeFound_18 rfl (lv_at hl 0 rfl) ?_
        refine gf_M_16 (v := .ref aXblocks) hx hb hts hown hK hP hN_X rfl d_M_takeFound_19 ?_
        refine lv_sipush (v := 2048) hx hb d_M_takeFound_22 (by decide) ?_
        refine lv_iload_n hx hb d_M_takeFound_25 rfl (lv_at hl 1 rfl) ?_
        refine lv_iadd hx hb d_M_takeFound_26 ?_
        obtain ⟨hin, hf⟩ := z_no hf
        refine va_iald hx hb hK hP _ 0 hN_Xblocks rfl hin d_M_takeFound_27 ?_
        obtain ⟨hin, hf⟩ := z_no hf
        refine z_iast hx hb hK hP hD hS hN_Xblocks rfl hin d_M_takeFound_28 (fun ws H locs hP hD hS hN_Xblocks hfr => ?_)
        have hN_Xblocks : zA ws 24 (aXblocks, .inl (cI, Xblocks_n, .inl (upd Xblocks_f_782 v1_781.toNatClampNeg (Xblocks_f_782 ((2048 : Int32) + v1_781).toNatClampNeg)))) := hN_Xblocks
        have hN_X := (hfr _ (by decide)).trans hN_X
        have hw := z_fr (by decide) hw hfr
        refine lv_iinc (v := (v1_781 + 1)) (lv' := [(1, .int (v1_781 + 1)), (0, .ref aX)]) hx hb d_M_takeFound_29 hl (k := 1) rfl rfl (by decide) rfl (fun ls hl => ?_)
        refine lv_goto (tgt := 2) hx hb d_M_takeFound_32 (by decide) ?_
        exact ih (v1_781 + 1) (upd Xblocks_f_782 v1_781.toNatClampNeg (Xblocks_f_782 ((2048 : Int32) + v1_781).toNatClampNeg)) _ _ _ ls _ hf (lv_sub hl [1, 0] rfl) hP hD hS hN_X hN_Xblocks hw kt0
  obtain ⟨q780, hc, hf⟩ := z_b hf
  refine lp783 _ FU (0 : Int32) Xblocks_f _ _ _ ls q780 hc (lv_sub hl [1, 0] rfl) hP hD hS hN_X hN_Xblocks hw (fun ws H locs ls hl hP hD hS hN_X hN_Xblocks hw => ?_)
  refine lv_aload_n hx hb d_M_takeFound_35 rfl (lv_at hl 0 rfl) ?_
  refine lv_aload_n hx hb d_M_takeFound_36 rfl (lv_at hl 0 rfl) ?_
  refine gf_M_120 (v := .int X_found) hx hb hts hown hK hP hN_X rfl d_M_takeFound_37 ?_
  refine pf_M_123 (v := .int X_found) hx hb hts hown hK hP hD hS hN_X rfl rfl (Nat.le_of_ble_eq_true rfl) d_M_takeFound_40 (fun ws H locs hP hD hS hN_X hfr => ?_)
  have hN_X : zA ws 21 (aX, .inr (7, [.int X_code, .int X_side, .ref aXpicture, .ref aXhalf, .int X_found, .ref aXblocks, .int X_found, .int X_encodedBits, .ref aXencoded, .int X_fedMany, .ref aXfed, .int X_readAt, .int X_why, .int X_tried, .int X_waiting, .ref aXpile, .int X_decoded, .ref aXnews, .ref aXolds, .ref aXhalves, .ref aXds, .ref aXrs, .ref aXbest, .long X_bestError])) := hN_X
  have hN_Xblocks := (hfr _ (by decide)).trans hN_Xblocks
  have hw := z_fr (by decide) hw hfr
  obtain rfl := Option.some.inj hf
  exact W.vret hx hb hr (fun t ht hW => ⟨⟨ws, rfl, ⟨hN_X, hN_Xblocks, hw⟩, by rw [ht]; exact hP, va_K.moved hW.alike hK, hD⟩, hS.F ht⟩) hS.2.2 d_M_takeFound_43
