def f_M_search_83 (p1 : Int32) (p2 : Int32) (p3 : Int32) (p4 : Int32) (p5 : Int32) (p6 : Int32) (p7 : Int32) (Xds_n : Nat) (Xds_f : Nat → Int32) : Nat → Int32 → Int32 → Option (Int32 × Int32)
  | 0, _, _ => none
  | n + 1, v8, v9 => if (4 : Int32) ≤ v9 then (some (v8, v9)) else (if v8 = 0 then (f_M_search_83 p1 p2 p3 p4 p5 p6 p7 Xds_n Xds_f n (0 : Int32) (v9 + 1)) else ((f_M_quarterSum p3 v9 Xds_n Xds_f).bind (fun q1014 => if p7 < q1014 then (f_M_search_83 p1 p2 p3 p4 p5 p6 p7 Xds_n Xds_f n (0 : Int32) (v9 + 1)) else (f_M_search_83 p1 p2 p3 p4 p5 p6 p7 Xds_n Xds_f n (1 : Int32) (v9 + 1)))))
def f_M_search_40 (p1 : Int32) (p2 : Int32) (p3 : Int32) (p4 : Int32) (p5 : Int32) (X_side : Int32) (Xhalf_n : Nat) (Xhalf_f : Nat → Int32) (Xds_n : Nat) (Xrs_n : Nat) (Xrs_f : Nat → Int32) (Xbest_n : Nat) : Nat → Int32 → Int32 → Int64 → (Nat → Int32) → (Nat → Int32) → Option (Int32 × Int32 × Int64 × (Nat → Int32) × (Nat → Int32))
  | 0, _, _, _, _, _ => none
  | n + 1, v6, X_tried, X_bestError, Xds_f, Xbest_f => if ((8 : Int32) * p5) ≤ v6 then (some (v6, X_tried, X_bestError, Xds_f, Xbest_f)) else ((f_M_layDomain p3 (v6 / (8 : Int32)) (v6 - v6 / (8 : Int32) * (8 : Int32)) X_side Xhalf_n Xhalf_f Xds_n Xds_f).bind (fun q1011 => (f_M_quarterSum p3 p4 Xds_n q1011).bind (fun q1012 => (f_M_search_83 p1 p2 p3 p4 p5 v6 q1012 Xds_n q1011 FU (1 : Int32) (0 : Int32)).bind (fun q1016 => if q1016.1 = 0 then (f_M_search_40 p1 p2 p3 p4 p5 X_side Xhalf_n Xhalf_f Xds_n Xrs_n Xrs_f Xbest_n n (v6 + 1) X_tried X_bestError q1011 Xbest_f) else ((f_M_tryOne p3 (v6 / (8 : Int32)) (v6 - v6 / (8 : Int32) * (8 : Int32)) X_bestError Xds_n q1011 Xrs_n Xrs_f Xbest_n Xbest_f).bind (fun q1022 => f_M_search_40 p1 p2 p3 p4 p5 X_side Xhalf_n Xhalf_f Xds_n Xrs_n Xrs_f Xbest_n n (v6 + 1) (X_tried + (1 : Int32)) q1022.1 q1011 q1022.2))))))
def f_M_search (x1 : Int32) (x2 : Int32) (x3 : Int32) (X_side : Int32) (X_tried : Int32) (X_bestError : Int64) (Xpicture_n : Nat) (Xpicture_f : Nat → Int32) (Xhalf_n : Nat) (Xhalf_f : Nat → Int32) (Xds_n : Nat) (Xds_f : Nat → Int32) (Xrs_n : Nat) (Xrs_f : Nat → Int32) (Xbest_n : Nat) (Xbest_f : Nat → Int32) : Option (Int32 × Int64 × (Nat → Int32) × (Nat → Int32) × (Nat → Int32)) := (f_M_layBlock x1 x2 x3 X_side Xpicture_n Xpicture_f Xrs_n Xrs_f).bind (fun q1004 => (f_M_classOf x3 Xrs_n q1004).bind (fun q1005 => (f_M_domains x3 X_side).bind (fun q1007 => (f_M_domains x3 X_side).bind (fun q1009 => (f_M_search_40 x1 x2 x3 q1005 (q1007 * q1009) X_side Xhalf_n Xhalf_f Xds_n Xrs_n q1004 Xbest_n FU (0 : Int32) X_tried (-1 : Int64) Xds_f Xbest_f).bind (fun q1023 => some (q1023.2.1, q1023.2.2.1, q1023.2.2.2.1, q1004, q1023.2.2.2.2))))))
set_option maxHeartbeats 4000000 in
set_option maxRecDepth 100000 in
theorem c_M_search (l : Launch) (dC : Nat → ClassId) (dI : Nat → Nat → Nat) (cI cL : ClassId) {ws0 : va_W} (sz : Nat) {aX aXpicture aXhalf aXblocks aXencoded aXfed aXpile aXnews aXolds aXhalves aXds aXrs aXbest : Nat} {X_code X_side X_many X_found X_encodedBits X_fedMany X_readAt X_why X_tried X_waiting X_decoded : Int32} {X_bestError : Int64} {Xpicture_n Xhalf_n Xds_n Xrs_n Xbest_n : Nat} {Xpicture_f Xhalf_f Xds_f Xrs_f Xbest_f : Nat → Int32} (x1 : Int32) (x2 : Int32) (x3 : Int32) (hN_X : zA ws0 21 (aX, .inr (7, [.int X_code, .int X_side, .ref aXpicture, .ref aXhalf, .int X_many, .ref aXblocks, .int X_found, .int X_encodedBits, .ref aXencoded, .int X_fedMany, .ref aXfed, .int X_readAt, .int X_why, .int X_tried, .int X_waiting, .ref aXpile, .int X_decoded, .ref aXnews, .ref aXolds, .ref aXhalves, .ref aXds, .ref aXrs, .ref aXbest, .long X_bestError]))) (hN_Xpicture : zA ws0 22 (aXpicture, .inl (cI, Xpicture_n, .inl Xpicture_f))) (hN_Xhalf : zA ws0 23 (aXhalf, .inl (cI, Xhalf_n, .inl Xhalf_f))) (hN_Xds : zA ws0 31 (aXds, .inl (cI, Xds_n, .inl Xds_f))) (hN_Xrs : zA ws0 32 (aXrs, .inl (cI, Xrs_n, .inl Xrs_f))) (hN_Xbest : zA ws0 33 (aXbest, .inl (cI, Xbest_n, .inl Xbest_f))) (r : Int32 × Int64 × (Nat → Int32) × (Nat → Int32) × (Nat → Int32)) (hf : f_M_search x1 x2 x3 X_side X_tried X_bestError Xpicture_n Xpicture_f Xhalf_n Xhalf_f Xds_n Xds_f Xrs_n Xrs_f Xbest_n Xbest_f = some r) : Met l y_M_search w_M_search rm_M_search (va_Pc [.ref aX, .int x1, .int x2, .int x3] (zM dC dI cI cL ws0 sz)) (va_Qv (fun ws' : va_W => zA ws' 21 (aX, .inr (7, [.int X_code, .int X_side, .ref aXpicture, .ref aXhalf, .int X_many, .ref aXblocks, .int X_found, .int X_encodedBits, .ref aXencoded, .int X_fedMany, .ref aXfed, .int X_readAt, .int X_why, .int r.1, .int X_waiting, .ref aXpile, .int X_decoded, .ref aXnews, .ref aXolds, .ref aXhalves, .ref aXds, .ref aXrs, .ref aXbest, .long r.2.1])) ∧ zA ws' 31 (aXds, .inl (cI, Xds_n, .inl r.2.2.1)) ∧ zA ws' 32 (aXrs, .inl (cI, Xrs_n, .inl r.2.2.2.1)) ∧ zA ws' 33 (aXbest, .inl (cI, Xbest_n, .inl r.2.2.2.2)) ∧ ∀ (j : Nat), j ∉ ([21, 31, 32, 33] : List Nat) → ws'[j]? = ws0[j]?) (zQ dC dI cI cL (va_A ws0 sz)) (va_A ws0 sz)) 0 0 (va_A ws0 sz) := by
  refine Met.ofW (cc := b_M_search) (maxL := 10) (ret := none) (by decide) rfl ?_
  intro p e s m args below meth c s₁ B hml hv
  obtain ⟨rfl, hsz, hP, hK, hZ, hD0⟩ := hv
  have hx := B.exec
  have hb := B.bytes
  have hr := B.returns
  have hlocks := B.notSynchronized
  have hts : ∀ w ∈ BIG, w.before ([.ref aX, .int x1, .int x2, .int x3] : List Value).toArray s = true := fun w h => atoms_spec (ws := w_M_search) B.pre w (List.mem_cons_of_mem _ h)
  have hown : s.vm.findClass "FractalMapsModel" = some m.cls := findClass_of_methodNamed B.named
  subst hsz
  have hD := hD0.self (sz := s.heap.size)
  generalize hAe : va_A ws0 s.heap.size = A at hD ⊢
  have hA : ∀ q : Nat, s.heap.size ≤ q → A q := fun q h => by rw [← hAe]; exact Or.inr h
  have hS : va_S A s.heap s.heap [] := va_S.rf
  have hw : ∀ (j : Nat), j ∉ ([21, 31, 32, 33] : List Nat) → ws0[j]? = ws0[j]? := fun _ _ => rfl
  have hl := lv_entry ([.ref aX, .int x1, .int x2, .int x3]) (n := 10) (Nat.le_of_ble_eq_true rfl)
  rw [lg_entry_eq]
  generalize (lg_sl ([.ref aX, .int x1, .int x2, .int x3]) ++ List.replicate (10 - (lg_sl ([.ref aX, .int x1, .int x2, .int x3])).length) Slot.unset).toArray = ls at hl ⊢
  have hl : lv_has ls 10 [(0, .ref aX), (1, .int x1), (2, .int x2), (3, .int x3)] := hl
  unfold f_M_search at hf
  refine lv_aload_n hx hb d_M_search_0 rfl (lv_at hl 0 rfl) ?_
  refine lv_iload_n hx hb d_M_search_1 rfl (lv_at hl 1 rfl) ?_
  refine lv_iload_n hx hb d_M_search_2 rfl (lv_at hl 2 rfl) ?_
  refine lv_iload_n hx hb d_M_search_3 rfl (lv_at hl 3 rfl) ?_
  obtain ⟨q1004, hc, hf⟩ := z_b hf
  have hFc := z_free hD hS hA
  refine va_callv (va_runV (As := [.int x1, .int x2, .int x3]) (rest := []) ⟨hx, hb, hml, hown, hts⟩ (c_M_layBlock l dC dI cI cL _ x1 x2 x3 hN_X hN_Xpicture hN_Xrs q1004 hc) (cw_M_95 hts ⟨Nat.le_of_ble_eq_true rfl, Nat.le_of_ble_eq_true rfl⟩) ⟨zbM, va_recv hK hP (ci := 7) rfl hN_X, (zpM hP hK hZ hD)⟩ rfl rfl hl.1 rfl (lv_room (Nat.le_of_ble_eq_true rfl)) d_M_search_4 ⟨Nat.zero_le _, Nat.zero_le _⟩) hS (fun q _ h => hFc q h) hFc (fun ws t H locs ht hvm hu hB hz1 hk1 hS => ?_)
  obtain ⟨hN_Xrs, hfr⟩ := hu
  obtain ⟨hP, -, hD1⟩ := hB
  rw [ht] at hP
  have hD := hD1.weaken (fun _ _ _ h => hFc _ h)
  have hN_Xrs : zA ws 32 (aXrs, .inl (cI, Xrs_n, .inl q1004)) := hN_Xrs
  have hN_X := (hfr _ (by decide)).trans hN_X
  have hN_Xpicture := (hfr _ (by decide)).trans hN_Xpicture
  have hN_Xhalf := (hfr _ (by decide)).trans hN_Xhalf
  have hN_Xds := (hfr _ (by decide)).trans hN_Xds
  have hN_Xbest := (hfr _ (by decide)).trans hN_Xbest
  have hw := z_frC (by decide) hw hfr
  refine lv_aload_n hx hb d_M_search_7 rfl (lv_at hl 0 rfl) ?_
  refine gf_M_40 (v := .ref aXrs) hx hb hts hown hK hP hN_X rfl d_M_search_8 ?_
  refine lv_iload_n hx hb d_M_search_11 rfl (lv_at hl 3 rfl) ?_
  obtain ⟨q1005, hc, hf⟩ := z_b hf
  refine vp_callSi (z_cr (va_runS (As := [.ref aXrs, .int x3]) (rest := []) ⟨hx, hb, hml, hown, hts⟩ (c_M_classOf l dC dI cI cL x3 hN_Xrs q1005 hc) (cw_M_99 hts ⟨Nat.le_of_ble_eq_true rfl, Nat.le_of_ble_eq_true rfl⟩) ⟨zbR, (zpR hP hK hZ)⟩ rfl rfl hl.1 rfl (lv_room (Nat.le_of_ble_eq_true rfl)) d_M_search_12 ⟨Nat.zero_le _, Nat.zero_le _⟩)) (fun r1006 hv => ?_)
  have hv := hv.symm
  subst hv
  refine lv_istore (lv' := [(4, .int q1005), (0, .ref aX), (1, .int x1), (2, .int x2), (3, .int x3)]) hx hb d_M_search_15 hl (by decide) rfl (fun ls hl => ?_)
  refine lv_aload_n hx hb d_M_search_17 rfl (lv_at hl 1 rfl) ?_
  refine lv_ldc2 (v := (-1)) hx hb hown (hts _ lk_M_103) d_M_search_18 ?_
  refine pf_M_91 (v := .long (-1 : Int64)) hx hb hts hown hK hP hD hS hN_X rfl rfl (Nat.le_of_ble_eq_true rfl) d_M_search_21 (fun ws H locs hP hD hS hN_X hfr => ?_)
  have hN_X : zA ws 21 (aX, .inr (7, [.int X_code, .int X_side, .ref aXpicture, .ref aXhalf, .int X_many, .ref aXblocks, .int X_found, .int X_encodedBits, .ref aXencoded, .int X_fedMany, .ref aXfed, .int X_readAt, .int X_why, .int X_tried, .int X_waiting, .ref aXpile, .int X_decoded, .ref aXnews, .ref aXolds, .ref aXhalves, .ref aXds, .ref aXrs, .ref aXbest, .long (-1 : Int64)])) := hN_X
  have hN_Xpicture := (hfr _ (by decide)).trans hN_Xpicture
  have hN_Xhalf := (hfr _ (by decide)).trans hN_Xhalf
  have hN_Xds := (hfr _ (by decide)).trans hN_Xds
  have hN_Xrs := (hfr _ (by decide)).trans hN_Xrs
  have hN_Xbest := (hfr _ (by decide)).trans hN_Xbest
  have hw := z_fr (by decide) hw hfr
  refine lv_aload_n hx hb d_M_search_24 rfl (lv_at hl 1 rfl) ?_
  refine lv_iload_n hx hb d_M_search_25 rfl (lv_at hl 4 rfl) ?_
  obtain ⟨q1007, hc, hf⟩ := z_b hf
  refine vp_callSi (z_cr (va_runV (As := [.int x3]) (rest := []) ⟨hx, hb, hml, hown, hts⟩ (c_M_domains l dC dI cI cL x3 hN_X q1007 hc) (cw_M_69 hts ⟨Nat.le_of_ble_eq_true rfl, Nat.le_of_ble_eq_true rfl⟩) ⟨zbR, va_recv hK hP (ci := 7) rfl hN_X, (zpR hP hK hZ)⟩ rfl rfl hl.1 rfl (lv_room (Nat.le_of_ble_eq_true rfl)) d_M_search_26 ⟨Nat.zero_le _, Nat.zero_le _⟩)) (fun r1008 hv => ?_)
  have hv := hv.symm
  subst hv
  refine lv_aload_n hx hb d_M_search_29 rfl (lv_at hl 1 rfl) ?_
  refine lv_iload_n hx hb d_M_search_30 rfl (lv_at hl 4 rfl) ?_
  obtain ⟨q1009, hc, hf⟩ := z_b hf
  refine vp_callSi (z_cr (va_runV (As := [.int x3]) (rest := [.int q1007]) ⟨hx, hb, hml, hown, hts⟩ (c_M_domains l dC dI cI cL x3 hN_X q1009 hc) (cw_M_69 hts ⟨Nat.le_of_ble_eq_true rfl, Nat.le_of_ble_eq_true rfl⟩) ⟨zbR, va_recv hK hP (ci := 7) rfl hN_X, (zpR hP hK hZ)⟩ rfl rfl hl.1 rfl (lv_room (Nat.le_of_ble_eq_true rfl)) d_M_search_31 ⟨Nat.zero_le _, Nat.zero_le _⟩)) (fun r1010 hv => ?_)
  have hv := hv.symm
  subst hv
  refine lv_imul hx hb d_M_search_34 ?_
  refine lv_istore (lv' := [(5, .int (q1007 * q1009)), (4, .int q1005), (0, .ref aX), (1, .int x1), (2, .int x2), (3, .int x3)]) hx hb d_M_search_35 hl (by decide) rfl (fun ls hl => ?_)
  refine lv_iconst (v := 0) hx hb d_M_search_37 (by decide) ?_
  refine lv_istore (lv' := [(6, .int (0 : Int32)), (5, .int (q1007 * q1009)), (4, .int q1005), (0, .ref aX), (1, .int x1), (2, .int x2), (3, .int x3)]) hx hb d_M_search_38 hl (by decide) rfl (fun ls hl => ?_)
  have lp1029 : ∀ (Qx : State → Prop) (n : Nat) (v6_1024 : Int32) (X_tried_1025 : Int32) (X_bestError_1026 : Int64) (Xds_f_1027 : Nat → Int32) (Xbest_f_1028 : Nat → Int32) (ws : va_W) (H : Heap) (locs : List Loc) (ls : Array Slot) (q : Int32 × Int32 × Int64 × (Nat → Int32) × (Nat → Int32)) (hf : f_M_search_40 x1 x2 x3 q1005 (q1007 * q1009) X_side Xhalf_n Xhalf_f Xds_n Xrs_n q1004 Xbest_n n v6_1024 X_tried_1025 X_bestError_1026 Xds_f_1027 Xbest_f_1028 = some q) (hl : lv_has ls 10 [(0, .ref aX), (1, .int x1), (2, .int x2), (3, .int x3), (4, .int q1005), (5, .int (q1007 * q1009)), (6, .int v6_1024)]) (hP : va_P (dC, dI) classes ws H) (hD : va_D A ws) (hS : va_S A s.heap H locs) (hN_X : zA ws 21 (aX, .inr (7, [.int X_code, .int X_side, .ref aXpicture, .ref aXhalf, .int X_many, .ref aXblocks, .int X_found, .int X_encodedBits, .ref aXencoded, .int X_fedMany, .ref aXfed, .int X_readAt, .int X_why, .int X_tried_1025, .int X_waiting, .ref aXpile, .int X_decoded, .ref aXnews, .ref aXolds, .ref aXhalves, .ref aXds, .ref aXrs, .ref aXbest, .long X_bestError_1026]))) (hN_Xpicture : zA ws 22 (aXpicture, .inl (cI, Xpicture_n, .inl Xpicture_f))) (hN_Xhalf : zA ws 23 (aXhalf, .inl (cI, Xhalf_n, .inl Xhalf_f))) (hN_Xds : zA ws 31 (aXds, .inl (cI, Xds_n, .inl Xds_f_1027))) (hN_Xrs : zA ws 32 (aXrs, .inl (cI, Xrs_n, .inl q1004))) (hN_Xbest : zA ws 33 (aXbest, .inl (cI, Xbest_n, .inl Xbest_f_1028))) (hw : ∀ (j : Nat), j ∉ ([21, 31, 32, 33] : List Nat) → ws[j]? = ws0[j]?) (kt0 : ∀ (ws : va_W) (H : Heap) (locs : List Loc) (ls : Array Slot), lv_has ls 10 [(0, .ref aX), (1, .int x1), (2, .int x2), (3, .int x3), (4, .int q1005), (5, .int (q1007 * q1009)), (6, .int q.1)] → (va_P (dC, dI) classes ws H) → (va_D A ws) → (va_S A s.heap H locs) → (zA ws 21 (aX, .inr (7, [.int X_code, .int X_side, .ref aXpicture, .ref aXhalf, .int X_many, .ref aXblocks, .int X_found, .int X_encodedBits, .ref aXencoded, .int X_fedMany, .ref aXfed, .int X_readAt, .int X_why, .int q.2.1, .int X_waiting, .ref aXpile, .int X_decoded, .ref aXnews, .ref aXolds, .ref aXhalves, .ref aXds, .ref aXrs, .ref aXbest, .long q.2.2.1]))) → (zA ws 22 (aXpicture, .inl (cI, Xpicture_n, .inl Xpicture_f))) → (zA ws 23 (aXhalf, .inl (cI, Xhalf_n, .inl Xhalf_f))) → (zA ws 31 (aXds, .inl (cI, Xds_n, .inl q.2.2.2.1))) → (zA ws 32 (aXrs, .inl (cI, Xrs_n, .inl q1004))) → (zA ws 33 (aXbest, .inl (cI, Xbest_n, .inl q.2.2.2.2))) → (∀ (j : Nat), j ∉ ([21, 31, 32, 33] : List Nat) → ws[j]? = ws0[j]?) → W p l e (headSpec w_M_search rm_M_search).room s m ([.ref aX, .int x1, .int x2, .int x3] : List Value).toArray below meth c H locs 0 0 Qx (F0 m 158 ls [])), W p l e (headSpec w_M_search rm_M_search).room s m ([.ref aX, .int x1, .int x2, .int x3] : List Value).toArray below meth c H locs 0 0 Qx (F0 m 40 ls []) := by
    intro Qx n
    induction n with
    | zero => intro v6_1024 X_tried_1025 X_bestError_1026 Xds_f_1027 Xbest_f_1028 ws H locs ls q hf; cases hf
    | succ n ih =>
      intro v6_1024 X_tried_1025 X_bestError_1026 Xds_f_1027 Xbest_f_1028 ws H locs ls q hf hl hP hD hS hN_X hN_Xpicture hN_Xhalf hN_Xds hN_Xrs hN_Xbest hw kt0
      rw [f_M_search_40] at hf
      refine lv_iload hx hb d_M_search_40 (lv_at hl 6 rfl) ?_
      refine lv_bipush (v := 8) hx hb d_M_search_42 (by decide) ?_
      refine lv_iload hx hb d_M_search_44 (lv_at hl 5 rfl) ?_
      refine lv_imul hx hb d_M_search_46 ?_
      refine lv_icmp_ge (tgt := 158) hx hb d_M_search_47 (by decide) (fun hc => ?_) (fun hc => ?_)
      · have hf := z_t hc hf
        obtain rfl := Option.some.inj hf
        exact kt0 _ _ _ ls (lv_sub hl [0, 1, 2, 3, 4, 5, 6] rfl) hP hD hS hN_X hN_Xpicture hN_Xhalf hN_Xds hN_Xrs hN_Xbest hw
      · have hf := z_f hc hf
        refine lv_aload_n hx hb d_M_search_50 rfl (lv_at hl 0 rfl) ?_
        refine lv_iload_n hx hb d_M_search_51 rfl (lv_at hl 3 rfl) ?_
        refine lv_iload hx hb d_M_search_52 (lv_at hl 6 rfl) ?_
        refine lv_bipush (v := 8) hx hb d_M_search_54 (by decide) ?_
        refine lv_idiv hx hb d_M_search_56 (by decide) ?_
        refine lv_iload hx hb d_M_search_57 (lv_at hl 6 rfl) ?_
        refine lv_bipush (v := 8) hx hb d_M_search_59 (by decide) ?_
        refine lv_irem hx hb d_M_search_61 (by decide) ?_
        obtain ⟨q1030, hc, hf⟩ := z_b hf
        have hFc := z_free hD hS hA
        refine va_callv (va_runV (As := [.int x3, .int (v6_1024 / (8 : Int32)), .int (v6_1024 - v6_1024 / (8 : Int32) * (8 : Int32))]) (rest := []) ⟨hx, hb, hml, hown, hts⟩ (c_M_layDomain l dC dI cI cL _ x3 (v6_1024 / (8 : Int32)) (v6_1024 - v6_1024 / (8 : Int32) * (8 : Int32)) hN_X hN_Xhalf hN_Xds q1030 hc) (cw_M_105 hts ⟨Nat.le_of_ble_eq_true rfl, Nat.le_of_ble_eq_true rfl⟩) ⟨zbM, va_recv hK hP (ci := 7) rfl hN_X, (zpM hP hK hZ hD)⟩ rfl rfl hl.1 rfl (lv_room (Nat.le_of_ble_eq_true rfl)) d_M_search_62 ⟨Nat.zero_le _, Nat.zero_le _⟩) hS (fun q _ h => hFc q h) hFc (fun ws t H locs ht hvm hu hB hz1 hk1 hS => ?_)
        obtain ⟨hN_Xds, hfr⟩ := hu
        obtain ⟨hP, -, hD1⟩ := hB
        rw [ht] at hP
        have hD := hD1.weaken (fun _ _ _ h => hFc _ h)
        have hN_Xds : zA ws 31 (aXds, .inl (cI, Xds_n, .inl q1030)) := hN_Xds
        have hN_X := (hfr _ (by decide)).trans hN_X
        have hN_Xpicture := (hfr _ (by decide)).trans hN_Xpicture
        have hN_Xhalf := (hfr _ (by decide)).trans hN_Xhalf
        have hN_Xrs := (hfr _ (by decide)).trans hN_Xrs
        have hN_Xbest := (hfr _ (by decide)).trans hN_Xbest
        have hw := z_frC (by decide) hw hfr
        refine lv_aload_n hx hb d_M_search_65 rfl (lv_at hl 0 rfl) ?_
        refine gf_M_37 (v := .ref aXds) hx hb hts hown hK hP hN_X rfl d_M_search_66 ?_
        refine lv_iload_n hx hb d_M_search_69 rfl (lv_at hl 3 rfl) ?_
        refine lv_iload hx hb d_M_search_70 (lv_at hl 4 rfl) ?_
        obtain ⟨q1031, hc, hf⟩ := z_b hf
        refine vp_callSi (z_cr (va_runS (As := [.ref aXds, .int x3, .int q1005]) (rest := []) ⟨hx, hb, hml, hown, hts⟩ (c_M_quarterSum l dC dI cI cL x3 q1005 hN_Xds q1031 hc) (cw_M_77 hts ⟨Nat.le_of_ble_eq_true rfl, Nat.le_of_ble_eq_true rfl⟩) ⟨zbR, (zpR hP hK hZ)⟩ rfl rfl hl.1 rfl (lv_room (Nat.le_of_ble_eq_true rfl)) d_M_search_72 ⟨Nat.zero_le _, Nat.zero_le _⟩)) (fun r1032 hv => ?_)
        have hv := hv.symm
        subst hv
        refine lv_istore (lv' := [(7, .int q1031), (0, .ref aX), (1, .int x1), (2, .int x2), (3, .int x3), (4, .int q1005), (5, .int (q1007 * q1009)), (6, .int v6_1024)]) hx hb d_M_search_75 hl (by decide) rfl (fun ls hl => ?_)
        refine lv_iconst (v := 1) hx hb d_M_search_77 (by decide) ?_
        refine lv_istore (lv' := [(8, .int (1 : Int32)), (7, .int q1031), (0, .ref aX), (1, .int x1), (2, .int x2), (3, .int x3), (4, .int q1005), (5, .int (q1007 * q1009)), (6, .int v6_1024)]) hx hb d_M_search_78 hl (by decide) rfl (fun ls hl => ?_)
        refine lv_iconst (v := 0) hx hb d_M_search_80 (by decide) ?_
        refine lv_istore (lv' := [(9, .int (0 : Int32)), (8, .int (1 : Int32)), (7, .int q1031), (0, .ref aX), (1, .int x1), (2, .int x2), (3, .int x3), (4, .int q1005), (5, .int (q1007 * q1009)), (6, .int v6_1024)]) hx hb d_M_search_81 hl (by decide) rfl (fun ls hl => ?_)
        have lp1036 : ∀ (Qx : State → Prop) (n : Nat) (v8_1034 : Int32) (v9_1035 : Int32) (ls : Array Slot) (q : Int32 × Int32) (hf : f_M_search_83 x1 x2 x3 q1005 (q1007 * q1009) v6_1024 q1031 Xds_n q1030 n v8_1034 v9_1035 = some q) (hl : lv_has ls 10 [(0, .ref aX), (1, .int x1), (2, .int x2), (3, .int x3), (4, .int q1005), (5, .int (q1007 * q1009)), (6, .int v6_1024), (7, .int q1031), (8, .int v8_1034), (9, .int v9_1035)]) (kt0 : ∀ (ls : Array Slot), lv_has ls 10 [(0, .ref aX), (1, .int x1), (2, .int x2), (3, .int x3), (4, .int q1005), (5, .int (q1007 * q1009)), (6, .int v6_1024), (7, .int q1031), (8, .int q.1), (9, .int q.2)] → W p l e (headSpec w_M_search rm_M_search).room s m ([.ref aX, .int x1, .int x2, .int x3] : List Value).toArray below meth c H locs 0 0 Qx (F0 m 122 ls [])), W p l e (headSpec w_M_search rm_M_search).room s m ([.ref aX, .int x1, .int x2, .int x3] : List Value).toArray below meth c H locs 0 0 Qx (F0 m 83 ls []) := by
          intro Qx n
          induction n with
          | zero => intro v8_1034 v9_1035 ls q hf; cases hf
          | succ n ih =>
            intro v8_1034 v9_1035 ls q hf hl kt0
            rw [f_M_search_83] at hf
            refine lv_iload hx hb d_M_search_83 (lv_at hl 9 rfl) ?_
            refine lv_iconst (v := 4) hx hb d_M_search_85 (by decide) ?_
            refine lv_icmp_ge (tgt := 122) hx hb d_M_search_86 (by decide) (fun hc => ?_) (fun hc => ?_)
            · have hf := z_t hc hf
              obtain rfl := Option.some.inj hf
              exact kt0 ls (lv_sub hl [0, 1, 2, 3, 4, 5, 6, 7, 8, 9] rfl)
            · have hf := z_f hc hf
              refine lv_iload hx hb d_M_search_89 (lv_at hl 8 rfl) ?_
              refine lv_if_eq (tgt := 113) hx hb d_M_search_91 (by decide) (fun hc => ?_) (fun hc => ?_)
              · have hf := z_t hc hf
                refine lv_iconst (v := 0) hx hb d_M_search_113 (by decide) ?_
                refine lv_istore (lv' := [(8, .int (0 : Int32)), (0, .ref aX), (1, .int x1), (2, .int x2), (3, .int x3), (4, .int q1005), (5, .int (q1007 * q1009)), (6, .int v6_1024), (7, .int q1031), (9, .int v9_1035)]) hx hb d_M_search_114 hl (by decide) rfl (fun ls hl => ?_)
                refine lv_iinc (v := (v9_1035 + 1)) (lv' := [(9, .int (v9_1035 + 1)), (8, .int (0 : Int32)), (0, .ref aX), (1, .int x1), (2, .int x2), (3, .int x3), (4, .int q1005), (5, .int (q1007 * q1009)), (6, .int v6_1024), (7, .int q1031)]) hx hb d_M_search_116 hl (k := 9) rfl rfl (by decide) rfl (fun ls hl => ?_)
                refine lv_goto (tgt := 83) hx hb d_M_search_119 (by decide) ?_
                exact ih (0 : Int32) (v9_1035 + 1) ls _ hf (lv_sub hl [2, 3, 4, 5, 6, 7, 8, 9, 1, 0] rfl) kt0
              · have hf := z_f hc hf
                refine lv_aload_n hx hb d_M_search_94 rfl (lv_at hl 0 rfl) ?_
                refine gf_M_37 (v := .ref aXds) hx hb hts hown hK hP hN_X rfl d_M_search_95 ?_
                refine lv_iload_n hx hb d_M_search_98 rfl (lv_at hl 3 rfl) ?_
                refine lv_iload hx hb d_M_search_99 (lv_at hl 9 rfl) ?_
                obtain ⟨q1037, hc, hf⟩ := z_b hf
                refine vp_callSi (z_cr (va_runS (As := [.ref aXds, .int x3, .int v9_1035]) (rest := []) ⟨hx, hb, hml, hown, hts⟩ (c_M_quarterSum l dC dI cI cL x3 v9_1035 hN_Xds q1037 hc) (cw_M_77 hts ⟨Nat.le_of_ble_eq_true rfl, Nat.le_of_ble_eq_true rfl⟩) ⟨zbR, (zpR hP hK hZ)⟩ rfl rfl hl.1 rfl (lv_room (Nat.le_of_ble_eq_true rfl)) d_M_search_101 ⟨Nat.zero_le _, Nat.zero_le _⟩)) (fun r1038 hv => ?_)
                have hv := hv.symm
                subst hv
                refine lv_iload hx hb d_M_search_104 (lv_at hl 7 rfl) ?_
                refine lv_icmp_gt (tgt := 113) hx hb d_M_search_106 (by decide) (fun hc => ?_) (fun hc => ?_)
                · have hf := z_t hc hf
                  refine lv_iconst (v := 0) hx hb d_M_search_113 (by decide) ?_
                  refine lv_istore (lv' := [(8, .int (0 : Int32)), (0, .ref aX), (1, .int x1), (2, .int x2), (3, .int x3), (4, .int q1005), (5, .int (q1007 * q1009)), (6, .int v6_1024), (7, .int q1031), (9, .int v9_1035)]) hx hb d_M_search_114 hl (by decide) rfl (fun ls hl => ?_)
                  refine lv_iinc (v := (v9_1035 + 1)) (lv' := [(9, .int (v9_1035 + 1)), (8, .int (0 : Int32)), (0, .ref aX), (1, .int x1), (2, .int x2), (3, .int x3), (4, .int q1005), (5, .int (q1007 * q1009)), (6, .int v6_1024), (7, .int q1031)]) hx hb d_M_search_116 hl (k := 9) rfl rfl (by decide) rfl (fun ls hl => ?_)
                  refine lv_goto (tgt := 83) hx hb d_M_search_119 (by decide) ?_
                  exact ih (0 : Int32) (v9_1035 + 1) ls _ hf (lv_sub hl [2, 3, 4, 5, 6, 7, 8, 9, 1, 0] rfl) kt0
                · have hf := z_f hc hf
                  refine lv_iconst (v := 1) hx hb d_M_search_109 (by decide) ?_
                  refine lv_goto (tgt := 114) hx hb d_M_search_110 (by decide) ?_
                  refine lv_istore (lv' := [(8, .int (1 : Int32)), (0, .ref aX), (1, .int x1), (2, .int x2), (3, .int x3), (4, .int q1005), (5, .int (q1007 * q1009)), (6, .int v6_1024), (7, .int q1031), (9, .int v9_1035)]) hx hb d_M_search_114 hl (by decide) rfl (fun ls hl => ?_)
                  refine lv_iinc (v := (v9_1035 + 1)) (lv' := [(9, .int (v9_1035 + 1)), (8, .int (1 : Int32)), (0, .ref aX), (1, .int x1), (2, .int x2), (3, .int x3), (4, .int q1005), (5, .int (q1007 * q1009)), (6, .int v6_1024), (7, .int q1031)]) hx hb d_M_search_116 hl (k := 9) rfl rfl (by decide) rfl (fun ls hl => ?_)
                  refine lv_goto (tgt := 83) hx hb d_M_search_119 (by decide) ?_
                  exact ih (1 : Int32) (v9_1035 + 1) ls _ hf (lv_sub hl [2, 3, 4, 5, 6, 7, 8, 9, 1, 0] rfl) kt0
        obtain ⟨q1033, hc, hf⟩ := z_b hf
        refine lp1036 _ FU (1 : Int32) (0 : Int32) ls q1033 hc (lv_sub hl [3, 4, 5, 6, 7, 8, 9, 2, 1, 0] rfl) (fun ls hl => ?_)
        refine lv_iload hx hb d_M_search_122 (lv_at hl 8 rfl) ?_
        refine lv_if_eq (tgt := 152) hx hb d_M_search_124 (by decide) (fun hc => ?_) (fun hc => ?_)
        · have hf := z_t hc hf
          refine lv_iinc (v := (v6_1024 + 1)) (lv' := [(6, .int (v6_1024 + 1)), (0, .ref aX), (1, .int x1), (2, .int x2), (3, .int x3), (4, .int q1005), (5, .int (q1007 * q1009)), (7, .int q1031), (8, .int q1033.1), (9, .int q1033.2)]) hx hb d_M_search_152 hl (k := 6) rfl rfl (by decide) rfl (fun ls hl => ?_)
          refine lv_goto (tgt := 40) hx hb d_M_search_155 (by decide) ?_
          exact ih (v6_1024 + 1) X_tried_1025 X_bestError_1026 q1030 Xbest_f_1028 _ _ _ ls _ hf (lv_sub hl [1, 2, 3, 4, 5, 6, 0] rfl) hP hD hS hN_X hN_Xpicture hN_Xhalf hN_Xds hN_Xrs hN_Xbest hw kt0
        · have hf := z_f hc hf
          refine lv_aload_n hx hb d_M_search_127 rfl (lv_at hl 0 rfl) ?_
          refine lv_dup hx hb d_M_search_128 rfl ?_
          refine gf_M_108 (v := .int X_tried_1025) hx hb hts hown hK hP hN_X rfl d_M_search_129 ?_
          refine lv_iconst (v := 1) hx hb d_M_search_132 (by decide) ?_
          refine lv_iadd hx hb d_M_search_133 ?_
          refine pf_M_108 (v := .int (X_tried_1025 + (1 : Int32))) hx hb hts hown hK hP hD hS hN_X rfl rfl (Nat.le_of_ble_eq_true rfl) d_M_search_134 (fun ws H locs hP hD hS hN_X hfr => ?_)
          have hN_X : zA ws 21 (aX, .inr (7, [.int X_code, .int X_side, .ref aXpicture, .ref aXhalf, .int X_many, .ref aXblocks, .int X_found, .int X_encodedBits, .ref aXencoded, .int X_fedMany, .ref aXfed, .int X_readAt, .int X_why, .int (X_tried_1025 + (1 : Int32)), .int X_waiting, .ref aXpile, .int X_decoded, .ref aXnews, .ref aXolds, .ref aXhalves, .ref aXds, .ref aXrs, .ref aXbest, .long X_bestError_1026])) := hN_X
          have hN_Xpicture := (hfr _ (by decide)).trans hN_Xpicture
          have hN_Xhalf := (hfr _ (by decide)).trans hN_Xhalf
          have hN_Xds := (hfr _ (by decide)).trans hN_Xds
          have hN_Xrs := (hfr _ (by decide)).trans hN_Xrs
          have hN_Xbest := (hfr _ (by decide)).trans hN_Xbest
          have hw := z_fr (by decide) hw hfr
          refine lv_aload_n hx hb d_M_search_137 rfl (lv_at hl 0 rfl) ?_
          refine lv_iload_n hx hb d_M_search_138 rfl (lv_at hl 3 rfl) ?_
          refine lv_iload hx hb d_M_search_139 (lv_at hl 6 rfl) ?_
          refine lv_bipush (v := 8) hx hb d_M_search_141 (by decide) ?_
          refine lv_idiv hx hb d_M_search_143 (by decide) ?_
          refine lv_iload hx hb d_M_search_144 (lv_at hl 6 rfl) ?_
          refine lv_bipush (v := 8) hx hb d_M_search_146 (by decide) ?_
          refine lv_irem hx hb d_M_search_148 (by decide) ?_
          obtain ⟨q1039, hc, hf⟩ := z_b hf
          have hFc := z_free hD hS hA
          refine va_callv (va_runV (As := [.int x3, .int (v6_1024 / (8 : Int32)), .int (v6_1024 - v6_1024 / (8 : Int32) * (8 : Int32))]) (rest := []) ⟨hx, hb, hml, hown, hts⟩ (c_M_tryOne l dC dI cI cL _ x3 (v6_1024 / (8 : Int32)) (v6_1024 - v6_1024 / (8 : Int32) * (8 : Int32)) hN_X hN_Xds hN_Xrs hN_Xbest q1039 hc) (cw_M_111 hts ⟨Nat.le_of_ble_eq_true rfl, Nat.le_of_ble_eq_true rfl⟩) ⟨zbM, va_recv hK hP (ci := 7) rfl hN_X, (zpM hP hK hZ hD)⟩ rfl rfl hl.1 rfl (lv_room (Nat.le_of_ble_eq_true rfl)) d_M_search_149 ⟨Nat.zero_le _, Nat.zero_le _⟩) hS (fun q _ h => hFc q h) hFc (fun ws t H locs ht hvm hu hB hz1 hk1 hS => ?_)
          obtain ⟨hN_X, hN_Xbest, hfr⟩ := hu
          obtain ⟨hP, -, hD1⟩ := hB
          rw [ht] at hP
          have hD := hD1.weaken (fun _ _ _ h => hFc _ h)
          have hN_X : zA ws 21 (aX, .inr (7, [.int X_code, .int X_side, .ref aXpicture, .ref aXhalf, .int X_many, .ref aXblocks, .int X_found, .int X_encodedBits, .ref aXencoded, .int X_fedMany, .ref aXfed, .int X_readAt, .int X_why, .int (X_tried_1025 + (1 : Int32)), .int X_waiting, .ref aXpile, .int X_decoded, .ref aXnews, .ref aXolds, .ref aXhalves, .ref aXds, .ref aXrs, .ref aXbest, .long q1039.1])) := hN_X
          have hN_Xbest : zA ws 33 (aXbest, .inl (cI, Xbest_n, .inl q1039.2)) := hN_Xbest
          have hN_Xpicture := (hfr _ (by decide)).trans hN_Xpicture
          have hN_Xhalf := (hfr _ (by decide)).trans hN_Xhalf
          have hN_Xds := (hfr _ (by decide)).trans hN_Xds
          have hN_Xrs := (hfr _ (by decide)).trans hN_Xrs
          have hw := z_frC (by decide) hw hfr
          refine lv_iinc (v := (v6_1024 + 1)) (lv' := [(6, .int (v6_1024 + 1)), (0, .ref aX), (1, .int x1), (2, .int x2), (3, .int x3), (4, .int q1005), (5, .int (q1007 * q1009)), (7, .int q1031), (8, .int q1033.1), (9, .int q1033.2)]) hx hb d_M_search_152 hl (k := 6) rfl rfl (by decide) rfl (fun ls hl => ?_)
          refine lv_goto (tgt := 40) hx hb d_M_search_155 (by decide) ?_
          exact ih (v6_1024 + 1) (X_tried_1025 + (1 : Int32)) q1039.1 q1030 q1039.2 _ _ _ ls _ hf (lv_sub hl [1, 2, 3, 4, 5, 6, 0] rfl) hP hD hS hN_X hN_Xpicture hN_Xhalf hN_Xds hN_Xrs hN_Xbest hw kt0
  obtain ⟨q1023, hc, hf⟩ := z_b hf
  refine lp1029 _ FU (0 : Int32) X_tried (-1 : Int64) Xds_f Xbest_f _ _ _ ls q1023 hc (lv_sub hl [3, 4, 5, 6, 2, 1, 0] rfl) hP hD hS hN_X hN_Xpicture hN_Xhalf hN_Xds hN_Xrs hN_Xbest hw (fun ws H locs ls hl hP hD hS hN_X hN_Xpicture hN_Xhalf hN_Xds hN_Xrs hN_Xbest hw => ?_)
  obtain rfl := Option.some.inj hf
  exact W.vret hx hb hr (fun t ht hW => ⟨⟨ws, rfl, ⟨hN_X, hN_Xds, hN_Xrs, hN_Xbest, hw⟩, by rw [ht]; exact hP, va_K.moved hW.alike hK, hD⟩, hS.F ht⟩) hS.2.2 d_M_search_158
