def f_M_decode_65 (p1 : Int32) (p2 : Int32) (X_decoded : Int32) (Xnews_n : Nat) : Nat → Int32 → (Nat → Int32) → Option (Int32 × (Nat → Int32))
  | 0, _, _ => none
  | n + 1, v3, Xnews_f => if (X_decoded * X_decoded) ≤ v3 then (some (v3, Xnews_f)) else (if v3 < 0 ∨ Xnews_n ≤ v3.toNatClampNeg then none else (f_M_decode_65 p1 p2 X_decoded Xnews_n n (v3 + 1) (upd Xnews_f v3.toNatClampNeg (128 : Int32))))
def f_M_decode_122 (p1 : Int32) (p2 : Int32) (p3 : Int32) (p4 : Int32) (X_decoded : Int32) (Xnews_n : Nat) (Xnews_f : Nat → Int32) (Xolds_n : Nat) : Nat → Int32 → (Nat → Int32) → Option (Int32 × (Nat → Int32))
  | 0, _, _ => none
  | n + 1, v5, Xolds_f => if (X_decoded * X_decoded) ≤ v5 then (some (v5, Xolds_f)) else (if v5 < 0 ∨ Xnews_n ≤ v5.toNatClampNeg then none else (if v5 < 0 ∨ Xolds_n ≤ v5.toNatClampNeg then none else (f_M_decode_122 p1 p2 p3 p4 X_decoded Xnews_n Xnews_f Xolds_n n (v5 + 1) (upd Xolds_f v5.toNatClampNeg (Xnews_f v5.toNatClampNeg)))))
def f_M_decode_161 (p1 : Int32) (p2 : Int32) (p4 : Int32) (X_side : Int32) (X_many : Int32) (Xblocks_n : Nat) (Xblocks_f : Nat → Int32) (Xnews_n : Nat) (Xolds_n : Nat) (Xolds_f : Nat → Int32) (Xhalves_n : Nat) (Xhalves_f : Nat → Int32) : Nat → Int32 → Int32 → (Nat → Int32) → Option (Int32 × Int32 × (Nat → Int32))
  | 0, _, _, _ => none
  | n + 1, v3, v5, Xnews_f => if X_many ≤ v5 then (some (v3, v5, Xnews_f)) else ((f_M_decodeBlock v5 (p2 + (1 : Int32)) X_side Xblocks_n Xblocks_f Xnews_n Xnews_f Xolds_n Xolds_f Xhalves_n Xhalves_f).bind (fun q918 => if q918.1 ≤ v3 then (f_M_decode_161 p1 p2 p4 X_side X_many Xblocks_n Xblocks_f Xnews_n Xolds_n Xolds_f Xhalves_n Xhalves_f n v3 (v5 + 1) q918.2) else (f_M_decode_161 p1 p2 p4 X_side X_many Xblocks_n Xblocks_f Xnews_n Xolds_n Xolds_f Xhalves_n Xhalves_f n q918.1 (v5 + 1) q918.2)))
def f_M_decode_98 (p1 : Int32) (p2 : Int32) (X_side : Int32) (X_many : Int32) (X_decoded : Int32) (Xblocks_n : Nat) (Xblocks_f : Nat → Int32) (Xnews_n : Nat) (Xolds_n : Nat) (Xhalves_n : Nat) : Nat → Int32 → Int32 → (Nat → Int32) → (Nat → Int32) → (Nat → Int32) → Option (Int32 × Int32 × (Nat → Int32) × (Nat → Int32) × (Nat → Int32))
  | 0, _, _, _, _, _ => none
  | n + 1, v3, v4, Xnews_f, Xolds_f, Xhalves_f => if p1 ≤ v4 then (some (v3, v4, Xnews_f, Xolds_f, Xhalves_f)) else ((f_M_halve X_decoded Xnews_n Xnews_f Xhalves_n Xhalves_f).bind (fun q914 => (f_M_decode_122 p1 p2 v3 v4 X_decoded Xnews_n Xnews_f Xolds_n FU (0 : Int32) Xolds_f).bind (fun q915 => (f_M_decode_161 p1 p2 v4 X_side X_many Xblocks_n Xblocks_f Xnews_n Xolds_n q915.2 Xhalves_n q914 FU (0 : Int32) (0 : Int32) Xnews_f).bind (fun q919 => f_M_decode_98 p1 p2 X_side X_many X_decoded Xblocks_n Xblocks_f Xnews_n Xolds_n Xhalves_n n q919.1 (v4 + 1) q919.2.2 q915.2 q914))))
def f_M_decode_J39 (p1 : Int32) (p2 : Int32) (X_code : Int32) (X_side : Int32) (X_many : Int32) (X_decoded : Int32) (Xblocks_n : Nat) (Xblocks_f : Nat → Int32) (Xnews_n : Nat) (Xnews_f : Nat → Int32) (Xolds_n : Nat) (Xolds_f : Nat → Int32) (Xhalves_n : Nat) (Xhalves_f : Nat → Int32) (s0 : Int32) : Option (Int32 × Int32 × Int32 × (Nat → Int32) × (Nat → Int32) × (Nat → Int32)) := if s0 ≤ 0 then ((f_M_decode_65 p1 p2 (X_side * (p2 + (1 : Int32))) Xnews_n FU (0 : Int32) Xnews_f).bind (fun q911 => (f_M_decode_98 p1 p2 X_side X_many (X_side * (p2 + (1 : Int32))) Xblocks_n Xblocks_f Xnews_n Xolds_n Xhalves_n FU (0 : Int32) (0 : Int32) q911.2 Xolds_f Xhalves_f).bind (fun q923 => some (q923.1, s0, (X_side * (p2 + (1 : Int32))), q923.2.2.1, q923.2.2.2.1, q923.2.2.2.2)))) else (some ((0 : Int32), s0, X_decoded, Xnews_f, Xolds_f, Xhalves_f))
def f_M_decode (x1 : Int32) (x2 : Int32) (X_code : Int32) (X_side : Int32) (X_many : Int32) (X_decoded : Int32) (Xblocks_n : Nat) (Xblocks_f : Nat → Int32) (Xnews_n : Nat) (Xnews_f : Nat → Int32) (Xolds_n : Nat) (Xolds_f : Nat → Int32) (Xhalves_n : Nat) (Xhalves_f : Nat → Int32) : Option (Int32 × Int32 × Int32 × (Nat → Int32) × (Nat → Int32) × (Nat → Int32)) := (f_M_in x1.toInt64 (1 : Int64) (40 : Int64)).bind (fun q909 => if q909 = 0 then (f_M_decode_J39 x1 x2 X_code X_side X_many X_decoded Xblocks_n Xblocks_f Xnews_n Xnews_f Xolds_n Xolds_f Xhalves_n Xhalves_f (1 : Int32)) else ((f_M_in x2.toInt64 (0 : Int64) (1 : Int64)).bind (fun q953 => if q953 = 0 then (f_M_decode_J39 x1 x2 X_code X_side X_many X_decoded Xblocks_n Xblocks_f Xnews_n Xnews_f Xolds_n Xolds_f Xhalves_n Xhalves_f (1 : Int32)) else (if X_many = 0 then (f_M_decode_J39 x1 x2 X_code X_side X_many X_decoded Xblocks_n Xblocks_f Xnews_n Xnews_f Xolds_n Xolds_f Xhalves_n Xhalves_f (2 : Int32)) else (f_M_decode_J39 x1 x2 X_code X_side X_many X_decoded Xblocks_n Xblocks_f Xnews_n Xnews_f Xolds_n Xolds_f Xhalves_n Xhalves_f (0 : Int32))))))
set_option maxHeartbeats 4000000 in
set_option maxRecDepth 100000 in
theorem c_M_decode (l : Launch) (dC : Nat → ClassId) (dI : Nat → Nat → Nat) (cI cL : ClassId) {ws0 : va_W} (sz : Nat) {aX aXpicture aXhalf aXblocks aXencoded aXfed aXpile aXnews aXolds aXhalves aXds aXrs aXbest : Nat} {X_code X_side X_many X_found X_encodedBits X_fedMany X_readAt X_why X_tried X_waiting X_decoded : Int32} {X_bestError : Int64} {Xblocks_n Xnews_n Xolds_n Xhalves_n : Nat} {Xblocks_f Xnews_f Xolds_f Xhalves_f : Nat → Int32} (x1 : Int32) (x2 : Int32) (hN_X : zA ws0 21 (aX, .inr (7, [.int X_code, .int X_side, .ref aXpicture, .ref aXhalf, .int X_many, .ref aXblocks, .int X_found, .int X_encodedBits, .ref aXencoded, .int X_fedMany, .ref aXfed, .int X_readAt, .int X_why, .int X_tried, .int X_waiting, .ref aXpile, .int X_decoded, .ref aXnews, .ref aXolds, .ref aXhalves, .ref aXds, .ref aXrs, .ref aXbest, .long X_bestError]))) (hN_Xblocks : zA ws0 24 (aXblocks, .inl (cI, Xblocks_n, .inl Xblocks_f))) (hN_Xnews : zA ws0 28 (aXnews, .inl (cI, Xnews_n, .inl Xnews_f))) (hN_Xolds : zA ws0 29 (aXolds, .inl (cI, Xolds_n, .inl Xolds_f))) (hN_Xhalves : zA ws0 30 (aXhalves, .inl (cI, Xhalves_n, .inl Xhalves_f))) (r : Int32 × Int32 × Int32 × (Nat → Int32) × (Nat → Int32) × (Nat → Int32)) (hf : f_M_decode x1 x2 X_code X_side X_many X_decoded Xblocks_n Xblocks_f Xnews_n Xnews_f Xolds_n Xolds_f Xhalves_n Xhalves_f = some r) : Met l y_M_decode w_M_decode rm_M_decode (va_Pc [.ref aX, .int x1, .int x2] (zM dC dI cI cL ws0 sz)) (va_Qi (fun (v : Int32) (ws' : va_W) => v = r.1 ∧ zA ws' 21 (aX, .inr (7, [.int r.2.1, .int X_side, .ref aXpicture, .ref aXhalf, .int X_many, .ref aXblocks, .int X_found, .int X_encodedBits, .ref aXencoded, .int X_fedMany, .ref aXfed, .int X_readAt, .int X_why, .int X_tried, .int X_waiting, .ref aXpile, .int r.2.2.1, .ref aXnews, .ref aXolds, .ref aXhalves, .ref aXds, .ref aXrs, .ref aXbest, .long X_bestError])) ∧ zA ws' 28 (aXnews, .inl (cI, Xnews_n, .inl r.2.2.2.1)) ∧ zA ws' 29 (aXolds, .inl (cI, Xolds_n, .inl r.2.2.2.2.1)) ∧ zA ws' 30 (aXhalves, .inl (cI, Xhalves_n, .inl r.2.2.2.2.2)) ∧ ∀ (j : Nat), j ∉ ([21, 28, 29, 30] : List Nat) → ws'[j]? = ws0[j]?) (zQ dC dI cI cL (va_A ws0 sz)) (va_A ws0 sz)) 0 0 (va_A ws0 sz) := by
  refine Met.ofW (cc := b_M_decode) (maxL := 7) (ret := some .int) (by decide) rfl ?_
  intro p e s m args below meth c s₁ B hml hv
  obtain ⟨rfl, hsz, hP, hK, hZ, hD0⟩ := hv
  have hx := B.exec
  have hb := B.bytes
  have hr := B.returns
  have hlocks := B.notSynchronized
  have hts : ∀ w ∈ BIG, w.before ([.ref aX, .int x1, .int x2] : List Value).toArray s = true := fun w h => atoms_spec (ws := w_M_decode) B.pre w (List.mem_cons_of_mem _ h)
  have hown : s.vm.findClass "FractalMapsModel" = some m.cls := findClass_of_methodNamed B.named
  subst hsz
  have hD := hD0.self (sz := s.heap.size)
  generalize hAe : va_A ws0 s.heap.size = A at hD ⊢
  have hA : ∀ q : Nat, s.heap.size ≤ q → A q := fun q h => by rw [← hAe]; exact Or.inr h
  have hS : va_S A s.heap s.heap [] := va_S.rf
  have hw : ∀ (j : Nat), j ∉ ([21, 28, 29, 30] : List Nat) → ws0[j]? = ws0[j]? := fun _ _ => rfl
  have hl := lv_entry ([.ref aX, .int x1, .int x2]) (n := 7) (Nat.le_of_ble_eq_true rfl)
  rw [lg_entry_eq]
  generalize (lg_sl ([.ref aX, .int x1, .int x2]) ++ List.replicate (7 - (lg_sl ([.ref aX, .int x1, .int x2])).length) Slot.unset).toArray = ls at hl ⊢
  have hl : lv_has ls 7 [(0, .ref aX), (1, .int x1), (2, .int x2)] := hl
  unfold f_M_decode at hf
  refine lv_aload_n hx hb d_M_decode_0 rfl (lv_at hl 0 rfl) ?_
  refine lv_iload_n hx hb d_M_decode_1 rfl (lv_at hl 1 rfl) ?_
  refine lv_i2l hx hb d_M_decode_2 rfl ?_
  refine lv_lconst (v := 1) hx hb d_M_decode_3 (by decide) ?_
  refine lv_ldc2 (v := 40) hx hb hown (hts _ lk_M_183) d_M_decode_4 ?_
  obtain ⟨q909, hc, hf⟩ := z_b hf
  refine vp_callSi (z_cr (va_runS (As := [.long x1.toInt64, .long (1 : Int64), .long (40 : Int64)]) (rest := [.ref aX]) ⟨hx, hb, hml, hown, hts⟩ (c_M_in l x1.toInt64 (1 : Int64) (40 : Int64) q909 hc) (cw_M_55 hts ⟨Nat.le_of_ble_eq_true rfl, Nat.le_of_ble_eq_true rfl⟩) ⟨zb0, zp0⟩ rfl rfl hl.1 rfl (lv_room (Nat.le_of_ble_eq_true rfl)) d_M_decode_7 ⟨Nat.zero_le _, Nat.zero_le _⟩)) (fun r910 hv => ?_)
  have hv := hv.symm
  subst hv
  have jp39_930 : ∀ (s0_929 : Int32) (ls : Array Slot) (hf : f_M_decode_J39 x1 x2 X_code X_side X_many X_decoded Xblocks_n Xblocks_f Xnews_n Xnews_f Xolds_n Xolds_f Xhalves_n Xhalves_f s0_929 = some r) (hl : lv_has ls 7 [(0, .ref aX), (1, .int x1), (2, .int x2)]), W p l e (headSpec w_M_decode rm_M_decode).room s m ([.ref aX, .int x1, .int x2] : List Value).toArray below meth c s.heap [] 0 0 (MQ below (va_Qi (fun (v : Int32) (ws' : va_W) => v = r.1 ∧ zA ws' 21 (aX, .inr (7, [.int r.2.1, .int X_side, .ref aXpicture, .ref aXhalf, .int X_many, .ref aXblocks, .int X_found, .int X_encodedBits, .ref aXencoded, .int X_fedMany, .ref aXfed, .int X_readAt, .int X_why, .int X_tried, .int X_waiting, .ref aXpile, .int r.2.2.1, .ref aXnews, .ref aXolds, .ref aXhalves, .ref aXds, .ref aXrs, .ref aXbest, .long X_bestError])) ∧ zA ws' 28 (aXnews, .inl (cI, Xnews_n, .inl r.2.2.2.1)) ∧ zA ws' 29 (aXolds, .inl (cI, Xolds_n, .inl r.2.2.2.2.1)) ∧ zA ws' 30 (aXhalves, .inl (cI, Xhalves_n, .inl r.2.2.2.2.2)) ∧ ∀ (j : Nat), j ∉ ([21, 28, 29, 30] : List Nat) → ws'[j]? = ws0[j]?) (zQ dC dI cI cL A) A) ([.ref aX, .int x1, .int x2] : List Value).toArray s 0 0 A) (F0 m 39 ls [.int s0_929, .ref aX]) := by
    intro s0_929 ls hf hl
    unfold f_M_decode_J39 at hf
    refine pf_M_50 (v := .int s0_929) hx hb hts hown hK hP hD hS hN_X rfl rfl (Nat.le_of_ble_eq_true rfl) d_M_decode_39 (fun ws H locs hP hD hS hN_X hfr => ?_)
    have hN_X : zA ws 21 (aX, .inr (7, [.int s0_929, .int X_side, .ref aXpicture, .ref aXhalf, .int X_many, .ref aXblocks, .int X_found, .int X_encodedBits, .ref aXencoded, .int X_fedMany, .ref aXfed, .int X_readAt, .int X_why, .int X_tried, .int X_waiting, .ref aXpile, .int X_decoded, .ref aXnews, .ref aXolds, .ref aXhalves, .ref aXds, .ref aXrs, .ref aXbest, .long X_bestError])) := hN_X
    have hN_Xblocks := (hfr _ (by decide)).trans hN_Xblocks
    have hN_Xnews := (hfr _ (by decide)).trans hN_Xnews
    have hN_Xolds := (hfr _ (by decide)).trans hN_Xolds
    have hN_Xhalves := (hfr _ (by decide)).trans hN_Xhalves
    have hw := z_fr (by decide) hw hfr
    refine lv_aload_n hx hb d_M_decode_42 rfl (lv_at hl 0 rfl) ?_
    refine gf_M_50 (v := .int s0_929) hx hb hts hown hK hP hN_X rfl d_M_decode_43 ?_
    refine lv_if_le (tgt := 51) hx hb d_M_decode_46 (by decide) (fun hc => ?_) (fun hc => ?_)
    · have hf := z_t hc hf
      refine lv_aload_n hx hb d_M_decode_51 rfl (lv_at hl 0 rfl) ?_
      refine lv_aload_n hx hb d_M_decode_52 rfl (lv_at hl 0 rfl) ?_
      refine gf_M_46 (v := .int X_side) hx hb hts hown hK hP hN_X rfl d_M_decode_53 ?_
      refine lv_iload_n hx hb d_M_decode_56 rfl (lv_at hl 2 rfl) ?_
      refine lv_iconst (v := 1) hx hb d_M_decode_57 (by decide) ?_
      refine lv_iadd hx hb d_M_decode_58 ?_
      refine lv_imul hx hb d_M_decode_59 ?_
      refine pf_M_185 (v := .int (X_side * (x2 + (1 : Int32)))) hx hb hts hown hK hP hD hS hN_X rfl rfl (Nat.le_of_ble_eq_true rfl) d_M_decode_60 (fun ws H locs hP hD hS hN_X hfr => ?_)
      have hN_X : zA ws 21 (aX, .inr (7, [.int s0_929, .int X_side, .ref aXpicture, .ref aXhalf, .int X_many, .ref aXblocks, .int X_found, .int X_encodedBits, .ref aXencoded, .int X_fedMany, .ref aXfed, .int X_readAt, .int X_why, .int X_tried, .int X_waiting, .ref aXpile, .int (X_side * (x2 + (1 : Int32))), .ref aXnews, .ref aXolds, .ref aXhalves, .ref aXds, .ref aXrs, .ref aXbest, .long X_bestError])) := hN_X
      have hN_Xblocks := (hfr _ (by decide)).trans hN_Xblocks
      have hN_Xnews := (hfr _ (by decide)).trans hN_Xnews
      have hN_Xolds := (hfr _ (by decide)).trans hN_Xolds
      have hN_Xhalves := (hfr _ (by decide)).trans hN_Xhalves
      have hw := z_fr (by decide) hw hfr
      refine lv_iconst (v := 0) hx hb d_M_decode_63 (by decide) ?_
      refine lv_istore_n (lv' := [(3, .int (0 : Int32)), (0, .ref aX), (1, .int x1), (2, .int x2)]) hx hb d_M_decode_64 rfl hl (by decide) rfl (fun ls hl => ?_)
      have lp934 : ∀ (Qx : State → Prop) (n : Nat) (v3_932 : Int32) (Xnews_f_933 : Nat → Int32) (ws : va_W) (H : Heap) (locs : List Loc) (ls : Array Slot) (q : Int32 × (Nat → Int32)) (hf : f_M_decode_65 x1 x2 (X_side * (x2 + (1 : Int32))) Xnews_n n v3_932 Xnews_f_933 = some q) (hl : lv_has ls 7 [(0, .ref aX), (1, .int x1), (2, .int x2), (3, .int v3_932)]) (hP : va_P (dC, dI) classes ws H) (hD : va_D A ws) (hS : va_S A s.heap H locs) (hN_X : zA ws 21 (aX, .inr (7, [.int s0_929, .int X_side, .ref aXpicture, .ref aXhalf, .int X_many, .ref aXblocks, .int X_found, .int X_encodedBits, .ref aXencoded, .int X_fedMany, .ref aXfed, .int X_readAt, .int X_why, .int X_tried, .int X_waiting, .ref aXpile, .int (X_side * (x2 + (1 : Int32))), .ref aXnews, .ref aXolds, .ref aXhalves, .ref aXds, .ref aXrs, .ref aXbest, .long X_bestError]))) (hN_Xblocks : zA ws 24 (aXblocks, .inl (cI, Xblocks_n, .inl Xblocks_f))) (hN_Xnews : zA ws 28 (aXnews, .inl (cI, Xnews_n, .inl Xnews_f_933))) (hN_Xolds : zA ws 29 (aXolds, .inl (cI, Xolds_n, .inl Xolds_f))) (hN_Xhalves : zA ws 30 (aXhalves, .inl (cI, Xhalves_n, .inl Xhalves_f))) (hw : ∀ (j : Nat), j ∉ ([21, 28, 29, 30] : List Nat) → ws[j]? = ws0[j]?) (kt0 : ∀ (ws : va_W) (H : Heap) (locs : List Loc) (ls : Array Slot), lv_has ls 7 [(0, .ref aX), (1, .int x1), (2, .int x2), (3, .int q.1)] → (va_P (dC, dI) classes ws H) → (va_D A ws) → (va_S A s.heap H locs) → (zA ws 21 (aX, .inr (7, [.int s0_929, .int X_side, .ref aXpicture, .ref aXhalf, .int X_many, .ref aXblocks, .int X_found, .int X_encodedBits, .ref aXencoded, .int X_fedMany, .ref aXfed, .int X_readAt, .int X_why, .int X_tried, .int X_waiting, .ref aXpile, .int (X_side * (x2 + (1 : Int32))), .ref aXnews, .ref aXolds, .ref aXhalves, .ref aXds, .ref aXrs, .ref aXbest, .long X_bestError]))) → (zA ws 24 (aXblocks, .inl (cI, Xblocks_n, .inl Xblocks_f))) → (zA ws 28 (aXnews, .inl (cI, Xnews_n, .inl q.2))) → (zA ws 29 (aXolds, .inl (cI, Xolds_n, .inl Xolds_f))) → (zA ws 30 (aXhalves, .inl (cI, Xhalves_n, .inl Xhalves_f))) → (∀ (j : Nat), j ∉ ([21, 28, 29, 30] : List Nat) → ws[j]? = ws0[j]?) → W p l e (headSpec w_M_decode rm_M_decode).room s m ([.ref aX, .int x1, .int x2] : List Value).toArray below meth c H locs 0 0 Qx (F0 m 93 ls [])), W p l e (headSpec w_M_decode rm_M_decode).room s m ([.ref aX, .int x1, .int x2] : List Value).toArray below meth c H locs 0 0 Qx (F0 m 65 ls []) := by
        intro Qx n
        induction n with
        | zero => intro v3_932 Xnews_f_933 ws H locs ls q hf; cases hf
        | succ n ih =>
          intro v3_932 Xnews_f_933 ws H locs ls q hf hl hP hD hS hN_X hN_Xblocks hN_Xnews hN_Xolds hN_Xhalves hw kt0
          rw [f_M_decode_65] at hf
          refine lv_iload_n hx hb d_M_decode_65 rfl (lv_at hl 3 rfl) ?_
          refine lv_aload_n hx hb d_M_decode_66 rfl (lv_at hl 0 rfl) ?_
          refine gf_M_185 (v := .int (X_side * (x2 + (1 : Int32)))) hx hb hts hown hK hP hN_X rfl d_M_decode_67 ?_
          refine lv_aload_n hx hb d_M_decode_70 rfl (lv_at hl 0 rfl) ?_
          refine gf_M_185 (v := .int (X_side * (x2 + (1 : Int32)))) hx hb hts hown hK hP hN_X rfl d_M_decode_71 ?_
          refine lv_imul hx hb d_M_decode_74 ?_
          refine lv_icmp_ge (tgt := 93) hx hb d_M_decode_75 (by decide) (fun hc => ?_) (fun hc => ?_)
          · have hf := z_t hc hf
            obtain rfl := Option.some.inj hf
            exact kt0 _ _ _ ls (lv_sub hl [0, 1, 2, 3] rfl) hP hD hS hN_X hN_Xblocks hN_Xnews hN_Xolds hN_Xhalves hw
          · have hf := z_f hc hf
            refine lv_aload_n hx hb d_M_decode_78 rfl (lv_at hl 0 rfl) ?_
            refine gf_M_28 (v := .ref aXnews) hx hb hts hown hK hP hN_X rfl d_M_decode_79 ?_
            refine lv_iload_n hx hb d_M_decode_82 rfl (lv_at hl 3 rfl) ?_
            refine lv_sipush (v := 128) hx hb d_M_decode_83 (by decide) ?_
            obtain ⟨hin, hf⟩ := z_no hf
            refine z_iast hx hb hK hP hD hS hN_Xnews rfl hin d_M_decode_86 (fun ws H locs hP hD hS hN_Xnews hfr => ?_)
            have hN_Xnews : zA ws 28 (aXnews, .inl (cI, Xnews_n, .inl (upd Xnews_f_933 v3_932.toNatClampNeg (128 : Int32)))) := hN_Xnews
            have hN_X := (hfr _ (by decide)).trans hN_X
            have hN_Xblocks := (hfr _ (by decide)).trans hN_Xblocks
            have hN_Xolds := (hfr _ (by decide)).trans hN_Xolds
            have hN_Xhalves := (hfr _ (by decide)).trans hN_Xhalves
            have hw := z_fr (by decide) hw hfr
            refine lv_iinc (v := (v3_932 + 1)) (lv' := [(3, .int (v3_932 + 1)), (0, .ref aX), (1, .int x1), (2, .int x2)]) hx hb d_M_decode_87 hl (k := 3) rfl rfl (by decide) rfl (fun ls hl => ?_)
            refine lv_goto (tgt := 65) hx hb d_M_decode_90 (by decide) ?_
            exact ih (v3_932 + 1) (upd Xnews_f_933 v3_932.toNatClampNeg (128 : Int32)) _ _ _ ls _ hf (lv_sub hl [1, 2, 3, 0] rfl) hP hD hS hN_X hN_Xblocks hN_Xnews hN_Xolds hN_Xhalves hw kt0
      obtain ⟨q931, hc, hf⟩ := z_b hf
      refine lp934 _ FU (0 : Int32) Xnews_f _ _ _ ls q931 hc (lv_sub hl [1, 2, 3, 0] rfl) hP hD hS hN_X hN_Xblocks hN_Xnews hN_Xolds hN_Xhalves hw (fun ws H locs ls hl hP hD hS hN_X hN_Xblocks hN_Xnews hN_Xolds hN_Xhalves hw => ?_)
      refine lv_iconst (v := 0) hx hb d_M_decode_93 (by decide) ?_
      refine lv_istore_n (lv' := [(3, .int (0 : Int32)), (0, .ref aX), (1, .int x1), (2, .int x2)]) hx hb d_M_decode_94 rfl hl (by decide) rfl (fun ls hl => ?_)
      refine lv_iconst (v := 0) hx hb d_M_decode_95 (by decide) ?_
      refine lv_istore (lv' := [(4, .int (0 : Int32)), (3, .int (0 : Int32)), (0, .ref aX), (1, .int x1), (2, .int x2)]) hx hb d_M_decode_96 hl (by decide) rfl (fun ls hl => ?_)
      have lp941 : ∀ (Qx : State → Prop) (n : Nat) (v3_936 : Int32) (v4_937 : Int32) (Xnews_f_938 : Nat → Int32) (Xolds_f_939 : Nat → Int32) (Xhalves_f_940 : Nat → Int32) (ws : va_W) (H : Heap) (locs : List Loc) (ls : Array Slot) (q : Int32 × Int32 × (Nat → Int32) × (Nat → Int32) × (Nat → Int32)) (hf : f_M_decode_98 x1 x2 X_side X_many (X_side * (x2 + (1 : Int32))) Xblocks_n Xblocks_f Xnews_n Xolds_n Xhalves_n n v3_936 v4_937 Xnews_f_938 Xolds_f_939 Xhalves_f_940 = some q) (hl : lv_has ls 7 [(0, .ref aX), (1, .int x1), (2, .int x2), (3, .int v3_936), (4, .int v4_937)]) (hP : va_P (dC, dI) classes ws H) (hD : va_D A ws) (hS : va_S A s.heap H locs) (hN_X : zA ws 21 (aX, .inr (7, [.int s0_929, .int X_side, .ref aXpicture, .ref aXhalf, .int X_many, .ref aXblocks, .int X_found, .int X_encodedBits, .ref aXencoded, .int X_fedMany, .ref aXfed, .int X_readAt, .int X_why, .int X_tried, .int X_waiting, .ref aXpile, .int (X_side * (x2 + (1 : Int32))), .ref aXnews, .ref aXolds, .ref aXhalves, .ref aXds, .ref aXrs, .ref aXbest, .long X_bestError]))) (hN_Xblocks : zA ws 24 (aXblocks, .inl (cI, Xblocks_n, .inl Xblocks_f))) (hN_Xnews : zA ws 28 (aXnews, .inl (cI, Xnews_n, .inl Xnews_f_938))) (hN_Xolds : zA ws 29 (aXolds, .inl (cI, Xolds_n, .inl Xolds_f_939))) (hN_Xhalves : zA ws 30 (aXhalves, .inl (cI, Xhalves_n, .inl Xhalves_f_940))) (hw : ∀ (j : Nat), j ∉ ([21, 28, 29, 30] : List Nat) → ws[j]? = ws0[j]?) (kt0 : ∀ (ws : va_W) (H : Heap) (locs : List Loc) (ls : Array Slot), lv_has ls 7 [(0, .ref aX), (1, .int x1), (2, .int x2), (3, .int q.1), (4, .int q.2.1)] → (va_P (dC, dI) classes ws H) → (va_D A ws) → (va_S A s.heap H locs) → (zA ws 21 (aX, .inr (7, [.int s0_929, .int X_side, .ref aXpicture, .ref aXhalf, .int X_many, .ref aXblocks, .int X_found, .int X_encodedBits, .ref aXencoded, .int X_fedMany, .ref aXfed, .int X_readAt, .int X_why, .int X_tried, .int X_waiting, .ref aXpile, .int (X_side * (x2 + (1 : Int32))), .ref aXnews, .ref aXolds, .ref aXhalves, .ref aXds, .ref aXrs, .ref aXbest, .long X_bestError]))) → (zA ws 24 (aXblocks, .inl (cI, Xblocks_n, .inl Xblocks_f))) → (zA ws 28 (aXnews, .inl (cI, Xnews_n, .inl q.2.2.1))) → (zA ws 29 (aXolds, .inl (cI, Xolds_n, .inl q.2.2.2.1))) → (zA ws 30 (aXhalves, .inl (cI, Xhalves_n, .inl q.2.2.2.2))) → (∀ (j : Nat), j ∉ ([21, 28, 29, 30] : List Nat) → ws[j]? = ws0[j]?) → W p l e (headSpec w_M_decode rm_M_decode).room s m ([.ref aX, .int x1, .int x2] : List Value).toArray below meth c H locs 0 0 Qx (F0 m 206 ls [])), W p l e (headSpec w_M_decode rm_M_decode).room s m ([.ref aX, .int x1, .int x2] : List Value).toArray below meth c H locs 0 0 Qx (F0 m 98 ls []) := by
        intro Qx n
        induction n with
        | zero => intro v3_936 v4_937 Xnews_f_938 Xolds_f_939 Xhalves_f_940 ws H locs ls q hf; cases hf
        | succ n ih =>
          intro v3_936 v4_937 Xnews_f_938 Xolds_f_939 Xhalves_f_940 ws H locs ls q hf hl hP hD hS hN_X hN_Xblocks hN_Xnews hN_Xolds hN_Xhalves hw kt0
          rw [f_M_decode_98] at hf
          refine lv_iload hx hb d_M_decode_98 (lv_at hl 4 rfl) ?_
          refine lv_iload_n hx hb d_M_decode_100 rfl (lv_at hl 1 rfl) ?_
          refine lv_icmp_ge (tgt := 206) hx hb d_M_decode_101 (by decide) (fun hc => ?_) (fun hc => ?_)
          · have hf := z_t hc hf
            obtain rfl := Option.some.inj hf
            exact kt0 _ _ _ ls (lv_sub hl [0, 1, 2, 3, 4] rfl) hP hD hS hN_X hN_Xblocks hN_Xnews hN_Xolds hN_Xhalves hw
          · have hf := z_f hc hf
            refine lv_aload_n hx hb d_M_decode_104 rfl (lv_at hl 0 rfl) ?_
            refine gf_M_28 (v := .ref aXnews) hx hb hts hown hK hP hN_X rfl d_M_decode_105 ?_
            refine lv_aload_n hx hb d_M_decode_108 rfl (lv_at hl 0 rfl) ?_
            refine gf_M_185 (v := .int (X_side * (x2 + (1 : Int32)))) hx hb hts hown hK hP hN_X rfl d_M_decode_109 ?_
            refine lv_aload_n hx hb d_M_decode_112 rfl (lv_at hl 0 rfl) ?_
            refine gf_M_34 (v := .ref aXhalves) hx hb hts hown hK hP hN_X rfl d_M_decode_113 ?_
            obtain ⟨q942, hc, hf⟩ := z_b hf
            have hFc := z_free hD hS hA
            refine va_callv (va_runS (As := [.ref aXnews, .int (X_side * (x2 + (1 : Int32))), .ref aXhalves]) (rest := []) ⟨hx, hb, hml, hown, hts⟩ (c_M_halve l dC dI cI cL _ (X_side * (x2 + (1 : Int32))) hN_Xnews hN_Xhalves (by decide) q942 hc) (cw_M_133 hts ⟨Nat.le_of_ble_eq_true rfl, Nat.le_of_ble_eq_true rfl⟩) ⟨zbM, (zpM hP hK hZ hD)⟩ rfl rfl hl.1 rfl (lv_room (Nat.le_of_ble_eq_true rfl)) d_M_decode_116 ⟨Nat.zero_le _, Nat.zero_le _⟩) hS (fun q _ h => hFc q h) hFc (fun ws t H locs ht hvm hu hB hz1 hk1 hS => ?_)
            obtain ⟨hN_Xhalves, hfr⟩ := hu
            obtain ⟨hP, -, hD1⟩ := hB
            rw [ht] at hP
            have hD := hD1.weaken (fun _ _ _ h => hFc _ h)
            have hN_Xhalves : zA ws 30 (aXhalves, .inl (cI, Xhalves_n, .inl q942)) := hN_Xhalves
            have hN_X := (hfr _ (by decide)).trans hN_X
            have hN_Xblocks := (hfr _ (by decide)).trans hN_Xblocks
            have hN_Xnews := (hfr _ (by decide)).trans hN_Xnews
            have hN_Xolds := (hfr _ (by decide)).trans hN_Xolds
            have hw := z_frC (by decide) hw hfr
            refine lv_iconst (v := 0) hx hb d_M_decode_119 (by decide) ?_
            refine lv_istore (lv' := [(5, .int (0 : Int32)), (0, .ref aX), (1, .int x1), (2, .int x2), (3, .int v3_936), (4, .int v4_937)]) hx hb d_M_decode_120 hl (by decide) rfl (fun ls hl => ?_)
            have lp946 : ∀ (Qx : State → Prop) (n : Nat) (v5_944 : Int32) (Xolds_f_945 : Nat → Int32) (ws : va_W) (H : Heap) (locs : List Loc) (ls : Array Slot) (q : Int32 × (Nat → Int32)) (hf : f_M_decode_122 x1 x2 v3_936 v4_937 (X_side * (x2 + (1 : Int32))) Xnews_n Xnews_f_938 Xolds_n n v5_944 Xolds_f_945 = some q) (hl : lv_has ls 7 [(0, .ref aX), (1, .int x1), (2, .int x2), (3, .int v3_936), (4, .int v4_937), (5, .int v5_944)]) (hP : va_P (dC, dI) classes ws H) (hD : va_D A ws) (hS : va_S A s.heap H locs) (hN_X : zA ws 21 (aX, .inr (7, [.int s0_929, .int X_side, .ref aXpicture, .ref aXhalf, .int X_many, .ref aXblocks, .int X_found, .int X_encodedBits, .ref aXencoded, .int X_fedMany, .ref aXfed, .int X_readAt, .int X_why, .int X_tried, .int X_waiting, .ref aXpile, .int (X_side * (x2 + (1 : Int32))), .ref aXnews, .ref aXolds, .ref aXhalves, .ref aXds, .ref aXrs, .ref aXbest, .long X_bestError]))) (hN_Xblocks : zA ws 24 (aXblocks, .inl (cI, Xblocks_n, .inl Xblocks_f))) (hN_Xnews : zA ws 28 (aXnews, .inl (cI, Xnews_n, .inl Xnews_f_938))) (hN_Xolds : zA ws 29 (aXolds, .inl (cI, Xolds_n, .inl Xolds_f_945))) (hN_Xhalves : zA ws 30 (aXhalves, .inl (cI, Xhalves_n, .inl q942))) (hw : ∀ (j : Nat), j ∉ ([21, 28, 29, 30] : List Nat) → ws[j]? = ws0[j]?) (kt0 : ∀ (ws : va_W) (H : Heap) (locs : List Loc) (ls : Array Slot), lv_has ls 7 [(0, .ref aX), (1, .int x1), (2, .int x2), (3, .int v3_936), (4, .int v4_937), (5, .int q.1)] → (va_P (dC, dI) classes ws H) → (va_D A ws) → (va_S A s.heap H locs) → (zA ws 21 (aX, .inr (7, [.int s0_929, .int X_side, .ref aXpicture, .ref aXhalf, .int X_many, .ref aXblocks, .int X_found, .int X_encodedBits, .ref aXencoded, .int X_fedMany, .ref aXfed, .int X_readAt, .int X_why, .int X_tried, .int X_waiting, .ref aXpile, .int (X_side * (x2 + (1 : Int32))), .ref aXnews, .ref aXolds, .ref aXhalves, .ref aXds, .ref aXrs, .ref aXbest, .long X_bestError]))) → (zA ws 24 (aXblocks, .inl (cI, Xblocks_n, .inl Xblocks_f))) → (zA ws 28 (aXnews, .inl (cI, Xnews_n, .inl Xnews_f_938))) → (zA ws 29 (aXolds, .inl (cI, Xolds_n, .inl q.2))) → (zA ws 30 (aXhalves, .inl (cI, Xhalves_n, .inl q942))) → (∀ (j : Nat), j ∉ ([21, 28, 29, 30] : List Nat) → ws[j]? = ws0[j]?) → W p l e (headSpec w_M_decode rm_M_decode).room s m ([.ref aX, .int x1, .int x2] : List Value).toArray below meth c H locs 0 0 Qx (F0 m 156 ls [])), W p l e (headSpec w_M_decode rm_M_decode).room s m ([.ref aX, .int x1, .int x2] : List Value).toArray below meth c H locs 0 0 Qx (F0 m 122 ls []) := by
              intro Qx n
              induction n with
              | zero => intro v5_944 Xolds_f_945 ws H locs ls q hf; cases hf
              | succ n ih =>
                intro v5_944 Xolds_f_945 ws H locs ls q hf hl hP hD hS hN_X hN_Xblocks hN_Xnews hN_Xolds hN_Xhalves hw kt0
                rw [f_M_decode_122] at hf
                refine lv_iload hx hb d_M_decode_122 (lv_at hl 5 rfl) ?_
                refine lv_aload_n hx hb d_M_decode_124 rfl (lv_at hl 0 rfl) ?_
                refine gf_M_185 (v := .int (X_side * (x2 + (1 : Int32)))) hx hb hts hown hK hP hN_X rfl d_M_decode_125 ?_
                refine lv_aload_n hx hb d_M_decode_128 rfl (lv_at hl 0 rfl) ?_
                refine gf_M_185 (v := .int (X_side * (x2 + (1 : Int32)))) hx hb hts hown hK hP hN_X rfl d_M_decode_129 ?_
                refine lv_imul hx hb d_M_decode_132 ?_
                refine lv_icmp_ge (tgt := 156) hx hb d_M_decode_133 (by decide) (fun hc => ?_) (fun hc => ?_)
                · have hf := z_t hc hf
                  obtain rfl := Option.some.inj hf
                  exact kt0 _ _ _ ls (lv_sub hl [0, 1, 2, 3, 4, 5] rfl) hP hD hS hN_X hN_Xblocks hN_Xnews hN_Xolds hN_Xhalves hw
                · have hf := z_f hc hf
                  refine lv_aload_n hx hb d_M_decode_136 rfl (lv_at hl 0 rfl) ?_
                  refine gf_M_31 (v := .ref aXolds) hx hb hts hown hK hP hN_X rfl d_M_decode_137 ?_
                  refine lv_iload hx hb d_M_decode_140 (lv_at hl 5 rfl) ?_
                  refine lv_aload_n hx hb d_M_decode_142 rfl (lv_at hl 0 rfl) ?_
                  refine gf_M_28 (v := .ref aXnews) hx hb hts hown hK hP hN_X rfl d_M_decode_143 ?_
                  refine lv_iload hx hb d_M_decode_146 (lv_at hl 5 rfl) ?_
                  obtain ⟨hin, hf⟩ := z_no hf
                  refine va_iald hx hb hK hP _ 0 hN_Xnews rfl hin d_M_decode_148 ?_
                  obtain ⟨hin, hf⟩ := z_no hf
                  refine z_iast hx hb hK hP hD hS hN_Xolds rfl hin d_M_decode_149 (fun ws H locs hP hD hS hN_Xolds hfr => ?_)
                  have hN_Xolds : zA ws 29 (aXolds, .inl (cI, Xolds_n, .inl (upd Xolds_f_945 v5_944.toNatClampNeg (Xnews_f_938 v5_944.toNatClampNeg)))) := hN_Xolds
                  have hN_X := (hfr _ (by decide)).trans hN_X
                  have hN_Xblocks := (hfr _ (by decide)).trans hN_Xblocks
                  have hN_Xnews := (hfr _ (by decide)).trans hN_Xnews
                  have hN_Xhalves := (hfr _ (by decide)).trans hN_Xhalves
                  have hw := z_fr (by decide) hw hfr
                  refine lv_iinc (v := (v5_944 + 1)) (lv' := [(5, .int (v5_944 + 1)), (0, .ref aX), (1, .int x1), (2, .int x2), (3, .int v3_936), (4, .int v4_937)]) hx hb d_M_decode_150 hl (k := 5) rfl rfl (by decide) rfl (fun ls hl => ?_)
                  refine lv_goto (tgt := 122) hx hb d_M_decode_153 (by decide) ?_
                  exact ih (v5_944 + 1) (upd Xolds_f_945 v5_944.toNatClampNeg (Xnews_f_938 v5_944.toNatClampNeg)) _ _ _ ls _ hf (lv_sub hl [1, 2, 3, 4, 5, 0] rfl) hP hD hS hN_X hN_Xblocks hN_Xnews hN_Xolds hN_Xhalves hw kt0
            obtain ⟨q943, hc, hf⟩ := z_b hf
            refine lp946 _ FU (0 : Int32) Xolds_f_939 _ _ _ ls q943 hc (lv_sub hl [1, 2, 3, 4, 5, 0] rfl) hP hD hS hN_X hN_Xblocks hN_Xnews hN_Xolds hN_Xhalves hw (fun ws H locs ls hl hP hD hS hN_X hN_Xblocks hN_Xnews hN_Xolds hN_Xhalves hw => ?_)
            refine lv_iconst (v := 0) hx hb d_M_decode_156 (by decide) ?_
            refine lv_istore_n (lv' := [(3, .int (0 : Int32)), (0, .ref aX), (1, .int x1), (2, .int x2), (4, .int v4_937), (5, .int q943.1)]) hx hb d_M_decode_157 rfl hl (by decide) rfl (fun ls hl => ?_)
            refine lv_iconst (v := 0) hx hb d_M_decode_158 (by decide) ?_
            refine lv_istore (lv' := [(5, .int (0 : Int32)), (3, .int (0 : Int32)), (0, .ref aX), (1, .int x1), (2, .int x2), (4, .int v4_937)]) hx hb d_M_decode_159 hl (by decide) rfl (fun ls hl => ?_)
            have lp951 : ∀ (Qx : State → Prop) (n : Nat) (v3_948 : Int32) (v5_949 : Int32) (Xnews_f_950 : Nat → Int32) (ws : va_W) (H : Heap) (locs : List Loc) (ls : Array Slot) (q : Int32 × Int32 × (Nat → Int32)) (hf : f_M_decode_161 x1 x2 v4_937 X_side X_many Xblocks_n Xblocks_f Xnews_n Xolds_n q943.2 Xhalves_n q942 n v3_948 v5_949 Xnews_f_950 = some q) (hl : lv_has ls 7 [(0, .ref aX), (1, .int x1), (2, .int x2), (3, .int v3_948), (4, .int v4_937), (5, .int v5_949)]) (hP : va_P (dC, dI) classes ws H) (hD : va_D A ws) (hS : va_S A s.heap H locs) (hN_X : zA ws 21 (aX, .inr (7, [.int s0_929, .int X_side, .ref aXpicture, .ref aXhalf, .int X_many, .ref aXblocks, .int X_found, .int X_encodedBits, .ref aXencoded, .int X_fedMany, .ref aXfed, .int X_readAt, .int X_why, .int X_tried, .int X_waiting, .ref aXpile, .int (X_side * (x2 + (1 : Int32))), .ref aXnews, .ref aXolds, .ref aXhalves, .ref aXds, .ref aXrs, .ref aXbest, .long X_bestError]))) (hN_Xblocks : zA ws 24 (aXblocks, .inl (cI, Xblocks_n, .inl Xblocks_f))) (hN_Xnews : zA ws 28 (aXnews, .inl (cI, Xnews_n, .inl Xnews_f_950))) (hN_Xolds : zA ws 29 (aXolds, .inl (cI, Xolds_n, .inl q943.2))) (hN_Xhalves : zA ws 30 (aXhalves, .inl (cI, Xhalves_n, .inl q942))) (hw : ∀ (j : Nat), j ∉ ([21, 28, 29, 30] : List Nat) → ws[j]? = ws0[j]?) (kt0 : ∀ (ws : va_W) (H : Heap) (locs : List Loc) (ls : Array Slot), lv_has ls 7 [(0, .ref aX), (1, .int x1), (2, .int x2), (3, .int q.1), (4, .int v4_937), (5, .int q.2.1)] → (va_P (dC, dI) classes ws H) → (va_D A ws) → (va_S A s.heap H locs) → (zA ws 21 (aX, .inr (7, [.int s0_929, .int X_side, .ref aXpicture, .ref aXhalf, .int X_many, .ref aXblocks, .int X_found, .int X_encodedBits, .ref aXencoded, .int X_fedMany, .ref aXfed, .int X_readAt, .int X_why, .int X_tried, .int X_waiting, .ref aXpile, .int (X_side * (x2 + (1 : Int32))), .ref aXnews, .ref aXolds, .ref aXhalves, .ref aXds, .ref aXrs, .ref aXbest, .long X_bestError]))) → (zA ws 24 (aXblocks, .inl (cI, Xblocks_n, .inl Xblocks_f))) → (zA ws 28 (aXnews, .inl (cI, Xnews_n, .inl q.2.2))) → (zA ws 29 (aXolds, .inl (cI, Xolds_n, .inl q943.2))) → (zA ws 30 (aXhalves, .inl (cI, Xhalves_n, .inl q942))) → (∀ (j : Nat), j ∉ ([21, 28, 29, 30] : List Nat) → ws[j]? = ws0[j]?) → W p l e (headSpec w_M_decode rm_M_decode).room s m ([.ref aX, .int x1, .int x2] : List Value).toArray below meth c H locs 0 0 Qx (F0 m 200 ls [])), W p l e (headSpec w_M_decode rm_M_decode).room s m ([.ref aX, .int x1, .int x2] : List Value).toArray below meth c H locs 0 0 Qx (F0 m 161 ls []) := by
              intro Qx n
              induction n with
              | zero => intro v3_948 v5_949 Xnews_f_950 ws H locs ls q hf; cases hf
              | succ n ih =>
                intro v3_948 v5_949 Xnews_f_950 ws H locs ls q hf hl hP hD hS hN_X hN_Xblocks hN_Xnews hN_Xolds hN_Xhalves hw kt0
                rw [f_M_decode_161] at hf
                refine lv_iload hx hb d_M_decode_161 (lv_at hl 5 rfl) ?_
                refine lv_aload_n hx hb d_M_decode_163 rfl (lv_at hl 0 rfl) ?_
                refine gf_M_123 (v := .int X_many) hx hb hts hown hK hP hN_X rfl d_M_decode_164 ?_
                refine lv_icmp_ge (tgt := 200) hx hb d_M_decode_167 (by decide) (fun hc => ?_) (fun hc => ?_)
                · have hf := z_t hc hf
                  obtain rfl := Option.some.inj hf
                  exact kt0 _ _ _ ls (lv_sub hl [0, 1, 2, 3, 4, 5] rfl) hP hD hS hN_X hN_Xblocks hN_Xnews hN_Xolds hN_Xhalves hw
                · have hf := z_f hc hf
                  refine lv_aload_n hx hb d_M_decode_170 rfl (lv_at hl 0 rfl) ?_
                  refine lv_iload hx hb d_M_decode_171 (lv_at hl 5 rfl) ?_
                  refine lv_iload_n hx hb d_M_decode_173 rfl (lv_at hl 2 rfl) ?_
                  refine lv_iconst (v := 1) hx hb d_M_decode_174 (by decide) ?_
                  refine lv_iadd hx hb d_M_decode_175 ?_
                  obtain ⟨q952, hc, hf⟩ := z_b hf
                  have hFc := z_free hD hS hA
                  refine va_calli (va_runV (As := [.int v5_949, .int (x2 + (1 : Int32))]) (rest := []) ⟨hx, hb, hml, hown, hts⟩ (c_M_decodeBlock l dC dI cI cL _ v5_949 (x2 + (1 : Int32)) hN_X hN_Xblocks hN_Xnews hN_Xolds hN_Xhalves q952 hc) (cw_M_188 hts ⟨Nat.le_of_ble_eq_true rfl, Nat.le_of_ble_eq_true rfl⟩) ⟨zbM, va_recv hK hP (ci := 7) rfl hN_X, (zpM hP hK hZ hD)⟩ rfl rfl hl.1 rfl (lv_room (Nat.le_of_ble_eq_true rfl)) d_M_decode_176 ⟨Nat.zero_le _, Nat.zero_le _⟩) hS (fun q _ h => hFc q h) hFc (fun rv ws t H locs ht hvm hu hB hz1 hk1 hS => ?_)
                  obtain ⟨hv, hN_Xnews, hfr⟩ := hu
                  subst hv
                  obtain ⟨hP, -, hD1⟩ := hB
                  rw [ht] at hP
                  have hD := hD1.weaken (fun _ _ _ h => hFc _ h)
                  have hN_Xnews : zA ws 28 (aXnews, .inl (cI, Xnews_n, .inl q952.2)) := hN_Xnews
                  have hN_X := (hfr _ (by decide)).trans hN_X
                  have hN_Xblocks := (hfr _ (by decide)).trans hN_Xblocks
                  have hN_Xolds := (hfr _ (by decide)).trans hN_Xolds
                  have hN_Xhalves := (hfr _ (by decide)).trans hN_Xhalves
                  have hw := z_frC (by decide) hw hfr
                  refine lv_istore (lv' := [(6, .int q952.1), (0, .ref aX), (1, .int x1), (2, .int x2), (3, .int v3_948), (4, .int v4_937), (5, .int v5_949)]) hx hb d_M_decode_179 hl (by decide) rfl (fun ls hl => ?_)
                  refine lv_iload hx hb d_M_decode_181 (lv_at hl 0 rfl) ?_
                  refine lv_iload_n hx hb d_M_decode_183 rfl (lv_at hl 4 rfl) ?_
                  refine lv_icmp_le (tgt := 192) hx hb d_M_decode_184 (by decide) (fun hc => ?_) (fun hc => ?_)
                  · have hf := z_t hc hf
                    refine lv_iload_n hx hb d_M_decode_192 rfl (lv_at hl 4 rfl) ?_
                    refine lv_istore_n (lv' := [(3, .int v3_948), (6, .int q952.1), (0, .ref aX), (1, .int x1), (2, .int x2), (4, .int v4_937), (5, .int v5_949)]) hx hb d_M_decode_193 rfl hl (by decide) rfl (fun ls hl => ?_)
                    refine lv_iinc (v := (v5_949 + 1)) (lv' := [(5, .int (v5_949 + 1)), (3, .int v3_948), (6, .int q952.1), (0, .ref aX), (1, .int x1), (2, .int x2), (4, .int v4_937)]) hx hb d_M_decode_194 hl (k := 6) rfl rfl (by decide) rfl (fun ls hl => ?_)
                    refine lv_goto (tgt := 161) hx hb d_M_decode_197 (by decide) ?_
                    exact ih v3_948 (v5_949 + 1) q952.2 _ _ _ ls _ hf (lv_sub hl [3, 4, 5, 1, 6, 0] rfl) hP hD hS hN_X hN_Xblocks hN_Xnews hN_Xolds hN_Xhalves hw kt0
                  · have hf := z_f hc hf
                    refine lv_iload hx hb d_M_decode_187 (lv_at hl 0 rfl) ?_
                    refine lv_goto (tgt := 193) hx hb d_M_decode_189 (by decide) ?_
                    refine lv_istore_n (lv' := [(3, .int q952.1), (6, .int q952.1), (0, .ref aX), (1, .int x1), (2, .int x2), (4, .int v4_937), (5, .int v5_949)]) hx hb d_M_decode_193 rfl hl (by decide) rfl (fun ls hl => ?_)
                    refine lv_iinc (v := (v5_949 + 1)) (lv' := [(5, .int (v5_949 + 1)), (3, .int q952.1), (6, .int q952.1), (0, .ref aX), (1, .int x1), (2, .int x2), (4, .int v4_937)]) hx hb d_M_decode_194 hl (k := 6) rfl rfl (by decide) rfl (fun ls hl => ?_)
                    refine lv_goto (tgt := 161) hx hb d_M_decode_197 (by decide) ?_
                    exact ih q952.1 (v5_949 + 1) q952.2 _ _ _ ls _ hf (lv_sub hl [3, 4, 5, 1, 6, 0] rfl) hP hD hS hN_X hN_Xblocks hN_Xnews hN_Xolds hN_Xhalves hw kt0
            obtain ⟨q947, hc, hf⟩ := z_b hf
            refine lp951 _ FU (0 : Int32) (0 : Int32) Xnews_f_938 _ _ _ ls q947 hc (lv_sub hl [2, 3, 4, 1, 5, 0] rfl) hP hD hS hN_X hN_Xblocks hN_Xnews hN_Xolds hN_Xhalves hw (fun ws H locs ls hl hP hD hS hN_X hN_Xblocks hN_Xnews hN_Xolds hN_Xhalves hw => ?_)
            refine lv_iinc (v := (v4_937 + 1)) (lv' := [(4, .int (v4_937 + 1)), (0, .ref aX), (1, .int x1), (2, .int x2), (3, .int q947.1), (5, .int q947.2.1)]) hx hb d_M_decode_200 hl (k := 4) rfl rfl (by decide) rfl (fun ls hl => ?_)
            refine lv_goto (tgt := 98) hx hb d_M_decode_203 (by decide) ?_
            exact ih q947.1 (v4_937 + 1) q947.2.2 q943.2 q942 _ _ _ ls _ hf (lv_sub hl [1, 2, 3, 4, 0] rfl) hP hD hS hN_X hN_Xblocks hN_Xnews hN_Xolds hN_Xhalves hw kt0
      obtain ⟨q935, hc, hf⟩ := z_b hf
      refine lp941 _ FU (0 : Int32) (0 : Int32) q931.2 Xolds_f Xhalves_f _ _ _ ls q935 hc (lv_sub hl [2, 3, 4, 1, 0] rfl) hP hD hS hN_X hN_Xblocks hN_Xnews hN_Xolds hN_Xhalves hw (fun ws H locs ls hl hP hD hS hN_X hN_Xblocks hN_Xnews hN_Xolds hN_Xhalves hw => ?_)
      refine lv_iload_n hx hb d_M_decode_206 rfl (lv_at hl 3 rfl) ?_
      obtain rfl := Option.some.inj hf
      exact W.iret hx hb hr (fun t ht hW => ⟨⟨_, ws, rfl, (by dsimp only; exact ⟨rfl, hN_X, hN_Xnews, hN_Xolds, hN_Xhalves, hw⟩), by rw [ht]; exact hP, va_K.moved hW.alike hK, hD⟩, hS.F ht⟩) hS.2.2 d_M_decode_207
    · have hf := z_f hc hf
      refine lv_iconst (v := 0) hx hb d_M_decode_49 (by decide) ?_
      obtain rfl := Option.some.inj hf
      exact W.iret hx hb hr (fun t ht hW => ⟨⟨_, ws, rfl, (by dsimp only; exact ⟨rfl, hN_X, hN_Xnews, hN_Xolds, hN_Xhalves, hw⟩), by rw [ht]; exact hP, va_K.moved hW.alike hK, hD⟩, hS.F ht⟩) hS.2.2 d_M_decode_50
  refine lv_if_eq (tgt := 23) hx hb d_M_decode_10 (by decide) (fun hc => ?_) (fun hc => ?_)
  · have hf := z_t hc hf
    refine lv_iconst (v := 1) hx hb d_M_decode_23 (by decide) ?_
    refine lv_goto (tgt := 39) hx hb d_M_decode_24 (by decide) ?_
    exact jp39_930 (1 : Int32) ls hf (lv_sub hl [0, 1, 2] rfl)
  · have hf := z_f hc hf
    refine lv_iload_n hx hb d_M_decode_13 rfl (lv_at hl 2 rfl) ?_
    refine lv_i2l hx hb d_M_decode_14 rfl ?_
    refine lv_lconst (v := 0) hx hb d_M_decode_15 (by decide) ?_
    refine lv_lconst (v := 1) hx hb d_M_decode_16 (by decide) ?_
    obtain ⟨q953, hc, hf⟩ := z_b hf
    refine vp_callSi (z_cr (va_runS (As := [.long x2.toInt64, .long (0 : Int64), .long (1 : Int64)]) (rest := [.ref aX]) ⟨hx, hb, hml, hown, hts⟩ (c_M_in l x2.toInt64 (0 : Int64) (1 : Int64) q953 hc) (cw_M_55 hts ⟨Nat.le_of_ble_eq_true rfl, Nat.le_of_ble_eq_true rfl⟩) ⟨zb0, zp0⟩ rfl rfl hl.1 rfl (lv_room (Nat.le_of_ble_eq_true rfl)) d_M_decode_17 ⟨Nat.zero_le _, Nat.zero_le _⟩)) (fun r954 hv => ?_)
    have hv := hv.symm
    subst hv
    refine lv_if_ne (tgt := 27) hx hb d_M_decode_20 (by decide) (fun hc => ?_) (fun hc => ?_)
    · have hf := z_f hc hf
      refine lv_aload_n hx hb d_M_decode_27 rfl (lv_at hl 0 rfl) ?_
      refine gf_M_123 (v := .int X_many) hx hb hts hown hK hP hN_X rfl d_M_decode_28 ?_
      refine lv_if_ne (tgt := 38) hx hb d_M_decode_31 (by decide) (fun hc => ?_) (fun hc => ?_)
      · have hf := z_f hc hf
        refine lv_iconst (v := 0) hx hb d_M_decode_38 (by decide) ?_
        exact jp39_930 (0 : Int32) ls hf (lv_sub hl [0, 1, 2] rfl)
      · have hf := z_t hc hf
        refine lv_iconst (v := 2) hx hb d_M_decode_34 (by decide) ?_
        refine lv_goto (tgt := 39) hx hb d_M_decode_35 (by decide) ?_
        exact jp39_930 (2 : Int32) ls hf (lv_sub hl [0, 1, 2] rfl)
    · have hf := z_t hc hf
      refine lv_iconst (v := 1) hx hb d_M_decode_23 (by decide) ?_
      refine lv_goto (tgt := 39) hx hb d_M_decode_24 (by decide) ?_
      exact jp39_930 (1 : Int32) ls hf (lv_sub hl [0, 1, 2] rfl)
