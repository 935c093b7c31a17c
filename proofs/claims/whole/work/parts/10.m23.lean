def f_M_domain_J109 (p1 : Int32) (p2 : Int32) (p3 : Int32) (p4 : Int32) (p5 : Int32) (X_code : Int32) (X_side : Int32) (Xpicture_n : Nat) (Xpicture_f : Nat → Int32) (Xhalf_n : Nat) (Xhalf_f : Nat → Int32) (Xds_n : Nat) (Xds_f : Nat → Int32) : Option (Int32 × Int32 × (Nat → Int32) × (Nat → Int32)) := if X_code ≤ 0 then ((f_M_halve X_side Xpicture_n Xpicture_f Xhalf_n Xhalf_f).bind (fun q856 => (f_M_layDomain p1 p2 p3 X_side Xhalf_n q856 Xds_n Xds_f).bind (fun q857 => if ((p1 * p5) + p4) < 0 ∨ Xds_n ≤ ((p1 * p5) + p4).toNatClampNeg then none else (some ((q857 ((p1 * p5) + p4).toNatClampNeg), X_code, q856, q857))))) else (some ((0 : Int32), X_code, Xhalf_f, Xds_f))
def f_M_domain_J106 (p1 : Int32) (p2 : Int32) (p3 : Int32) (p4 : Int32) (p5 : Int32) (p6 : Int32) (X_code : Int32) (X_side : Int32) (Xpicture_n : Nat) (Xpicture_f : Nat → Int32) (Xhalf_n : Nat) (Xhalf_f : Nat → Int32) (Xds_n : Nat) (Xds_f : Nat → Int32) (s0 : Int32) : Option (Int32 × Int32 × (Nat → Int32) × (Nat → Int32)) := if s0 ≤ 0 then ((f_M_halve X_side Xpicture_n Xpicture_f Xhalf_n Xhalf_f).bind (fun q864 => (f_M_layDomain p1 p2 p3 X_side Xhalf_n q864 Xds_n Xds_f).bind (fun q865 => if ((p1 * p5) + p4) < 0 ∨ Xds_n ≤ ((p1 * p5) + p4).toNatClampNeg then none else (some ((q865 ((p1 * p5) + p4).toNatClampNeg), s0, q864, q865))))) else (some ((0 : Int32), s0, Xhalf_f, Xds_f))
def f_M_domain_J35 (p1 : Int32) (p2 : Int32) (p3 : Int32) (p4 : Int32) (p5 : Int32) (X_code : Int32) (X_side : Int32) (Xpicture_n : Nat) (Xpicture_f : Nat → Int32) (Xhalf_n : Nat) (Xhalf_f : Nat → Int32) (Xds_n : Nat) (Xds_f : Nat → Int32) (s0 : Int32) : Option (Int32 × Int32 × (Nat → Int32) × (Nat → Int32)) := if s0 = 0 then ((f_M_domains p1 X_side).bind (fun q858 => (f_M_domains p1 X_side).bind (fun q860 => (f_M_in p2.toInt64 (0 : Int64) (((q858 * q860) - (1 : Int32)).toInt64)).bind (fun q862 => if q862 = 0 then (f_M_domain_J106 p1 p2 p3 p4 p5 (q858 * q860) s0 X_side Xpicture_n Xpicture_f Xhalf_n Xhalf_f Xds_n Xds_f (2 : Int32)) else ((f_M_in p4.toInt64 (0 : Int64) ((p1 - (1 : Int32)).toInt64)).bind (fun q866 => if q866 = 0 then (f_M_domain_J106 p1 p2 p3 p4 p5 (q858 * q860) s0 X_side Xpicture_n Xpicture_f Xhalf_n Xhalf_f Xds_n Xds_f (2 : Int32)) else ((f_M_in p5.toInt64 (0 : Int64) ((p1 - (1 : Int32)).toInt64)).bind (fun q868 => if q868 = 0 then (f_M_domain_J106 p1 p2 p3 p4 p5 (q858 * q860) s0 X_side Xpicture_n Xpicture_f Xhalf_n Xhalf_f Xds_n Xds_f (2 : Int32)) else (f_M_domain_J106 p1 p2 p3 p4 p5 (q858 * q860) s0 X_side Xpicture_n Xpicture_f Xhalf_n Xhalf_f Xds_n Xds_f (0 : Int32)))))))))) else (f_M_domain_J109 p1 p2 p3 p4 p5 s0 X_side Xpicture_n Xpicture_f Xhalf_n Xhalf_f Xds_n Xds_f)
def f_M_domain (x1 : Int32) (x2 : Int32) (x3 : Int32) (x4 : Int32) (x5 : Int32) (X_code : Int32) (X_side : Int32) (Xpicture_n : Nat) (Xpicture_f : Nat → Int32) (Xhalf_n : Nat) (Xhalf_f : Nat → Int32) (Xds_n : Nat) (Xds_f : Nat → Int32) : Option (Int32 × Int32 × (Nat → Int32) × (Nat → Int32)) := (f_M_isSize x1).bind (fun q854 => if q854 = 0 then (f_M_domain_J35 x1 x2 x3 x4 x5 X_code X_side Xpicture_n Xpicture_f Xhalf_n Xhalf_f Xds_n Xds_f (1 : Int32)) else (if X_side < ((2 : Int32) * x1) then (f_M_domain_J35 x1 x2 x3 x4 x5 X_code X_side Xpicture_n Xpicture_f Xhalf_n Xhalf_f Xds_n Xds_f (1 : Int32)) else ((f_M_in x3.toInt64 (0 : Int64) (7 : Int64)).bind (fun q888 => if q888 = 0 then (f_M_domain_J35 x1 x2 x3 x4 x5 X_code X_side Xpicture_n Xpicture_f Xhalf_n Xhalf_f Xds_n Xds_f (1 : Int32)) else (f_M_domain_J35 x1 x2 x3 x4 x5 X_code X_side Xpicture_n Xpicture_f Xhalf_n Xhalf_f Xds_n Xds_f (0 : Int32))))))
set_option maxHeartbeats 4000000 in
set_option maxRecDepth 100000 in
theorem c_M_domain (l : Launch) (dC : Nat → ClassId) (dI : Nat → Nat → Nat) (cI cL : ClassId) {ws0 : va_W} (sz : Nat) {aX aXpicture aXhalf aXblocks aXencoded aXfed aXpile aXnews aXolds aXhalves aXds aXrs aXbest : Nat} {X_code X_side X_many X_found X_encodedBits X_fedMany X_readAt X_why X_tried X_waiting X_decoded : Int32} {X_bestError : Int64} {Xpicture_n Xhalf_n Xds_n : Nat} {Xpicture_f Xhalf_f Xds_f : Nat → Int32} (x1 : Int32) (x2 : Int32) (x3 : Int32) (x4 : Int32) (x5 : Int32) (hN_X : zA ws0 21 (aX, .inr (7, [.int X_code, .int X_side, .ref aXpicture, .ref aXhalf, .int X_many, .ref aXblocks, .int X_found, .int X_encodedBits, .ref aXencoded, .int X_fedMany, .ref aXfed, .int X_readAt, .int X_why, .int X_tried, .int X_waiting, .ref aXpile, .int X_decoded, .ref aXnews, .ref aXolds, .ref aXhalves, .ref aXds, .ref aXrs, .ref aXbest, .long X_bestError]))) (hN_Xpicture : zA ws0 22 (aXpicture, .inl (cI, Xpicture_n, .inl Xpicture_f))) (hN_Xhalf : zA ws0 23 (aXhalf, .inl (cI, Xhalf_n, .inl Xhalf_f))) (hN_Xds : zA ws0 31 (aXds, .inl (cI, Xds_n, .inl Xds_f))) (r : Int32 × Int32 × (Nat → Int32) × (Nat → Int32)) (hf : f_M_domain x1 x2 x3 x4 x5 X_code X_side Xpicture_n Xpicture_f Xhalf_n Xhalf_f Xds_n Xds_f = some r) : Met l y_M_domain w_M_domain rm_M_domain (va_Pc [.ref aX, .int x1, .int x2, .int x3, .int x4, .int x5] (zM dC dI cI cL ws0 sz)) (va_Qi (fun (v : Int32) (ws' : va_W) => v = r.1 ∧ zA ws' 21 (aX, .inr (7, [.int r.2.1, .int X_side, .ref aXpicture, .ref aXhalf, .int X_many, .ref aXblocks, .int X_found, .int X_encodedBits, .ref aXencoded, .int X_fedMany, .ref aXfed, .int X_readAt, .int X_why, .int X_tried, .int X_waiting, .ref aXpile, .int X_decoded, .ref aXnews, .ref aXolds, .ref aXhalves, .ref aXds, .ref aXrs, .ref aXbest, .long X_bestError])) ∧ zA ws' 23 (aXhalf, .inl (cI, Xhalf_n, .inl r.2.2.1)) ∧ zA ws' 31 (aXds, .inl (cI, Xds_n, .inl r.2.2.2)) ∧ ∀ (j : Nat), j ∉ ([21, 23, 31] : List Nat) → ws'[j]? = ws0[j]?) (zQ dC dI cI cL (va_A ws0 sz)) (va_A ws0 sz)) 0 0 (va_A ws0 sz) := by
  refine Met.ofW (cc := b_M_domain) (maxL := 7) (ret := some .int) (by decide) rfl ?_
  intro p e s m args below meth c s₁ B hml hv
  obtain ⟨rfl, hsz, hP, hK, hZ, hD0⟩ := hv
  have hx := B.exec
  have hb := B.bytes
  have hr := B.returns
  have hlocks := B.notSynchronized
  have hts : ∀ w ∈ BIG, w.before ([.ref aX, .int x1, .int x2, .int x3, .int x4, .int x5] : List Value).toArray s = true := fun w h => atoms_spec (ws := w_M_domain) B.pre w (List.mem_cons_of_mem _ h)
  have hown : s.vm.findClass "FractalMapsModel" = some m.cls := findClass_of_methodNamed B.named
  subst hsz
  have hD := hD0.self (sz := s.heap.size)
  generalize hAe : va_A ws0 s.heap.size = A at hD ⊢
  have hA : ∀ q : Nat, s.heap.size ≤ q → A q := fun q h => by rw [← hAe]; exact Or.inr h
  have hS : va_S A s.heap s.heap [] := va_S.rf
  have hw : ∀ (j : Nat), j ∉ ([21, 23, 31] : List Nat) → ws0[j]? = ws0[j]? := fun _ _ => rfl
  have hl := lv_entry ([.ref aX, .int x1, .int x2, .int x3, .int x4, .int x5]) (n := 7) (Nat.le_of_ble_eq_true rfl)
  rw [lg_entry_eq]
  generalize (lg_sl ([.ref aX, .int x1, .int x2, .int x3, .int x4, .int x5]) ++ List.replicate (7 - (lg_sl ([.ref aX, .int x1, .int x2, .int x3, .int x4, .int x5])).length) Slot.unset).toArray = ls at hl ⊢
  have hl : lv_has ls 7 [(0, .ref aX), (1, .int x1), (2, .int x2), (3, .int x3), (4, .int x4), (5, .int x5)] := hl
  unfold f_M_domain at hf
  refine lv_aload_n hx hb d_M_domain_0 rfl (lv_at hl 0 rfl) ?_
  refine lv_iload_n hx hb d_M_domain_1 rfl (lv_at hl 1 rfl) ?_
  obtain ⟨q854, hc, hf⟩ := z_b hf
  refine vp_callSi (z_cr (va_runS (As := [.int x1]) (rest := [.ref aX]) ⟨hx, hb, hml, hown, hts⟩ (c_M_isSize l x1 q854 hc) (cw_M_129 hts ⟨Nat.le_of_ble_eq_true rfl, Nat.le_of_ble_eq_true rfl⟩) ⟨zb0, zp0⟩ rfl rfl hl.1 rfl (lv_room (Nat.le_of_ble_eq_true rfl)) d_M_domain_2 ⟨Nat.zero_le _, Nat.zero_le _⟩)) (fun r855 hv => ?_)
  have hv := hv.symm
  subst hv
  have jp35_871 : ∀ (s0_870 : Int32) (ls : Array Slot) (hf : f_M_domain_J35 x1 x2 x3 x4 x5 X_code X_side Xpicture_n Xpicture_f Xhalf_n Xhalf_f Xds_n Xds_f s0_870 = some r) (hl : lv_has ls 7 [(0, .ref aX), (1, .int x1), (2, .int x2), (3, .int x3), (4, .int x4), (5, .int x5)]), W p l e (headSpec w_M_domain rm_M_domain).room s m ([.ref aX, .int x1, .int x2, .int x3, .int x4, .int x5] : List Value).toArray below meth c s.heap [] 0 0 (MQ below (va_Qi (fun (v : Int32) (ws' : va_W) => v = r.1 ∧ zA ws' 21 (aX, .inr (7, [.int r.2.1, .int X_side, .ref aXpicture, .ref aXhalf, .int X_many, .ref aXblocks, .int X_found, .int X_encodedBits, .ref aXencoded, .int X_fedMany, .ref aXfed, .int X_readAt, .int X_why, .int X_tried, .int X_waiting, .ref aXpile, .int X_decoded, .ref aXnews, .ref aXolds, .ref aXhalves, .ref aXds, .ref aXrs, .ref aXbest, .long X_bestError])) ∧ zA ws' 23 (aXhalf, .inl (cI, Xhalf_n, .inl r.2.2.1)) ∧ zA ws' 31 (aXds, .inl (cI, Xds_n, .inl r.2.2.2)) ∧ ∀ (j : Nat), j ∉ ([21, 23, 31] : List Nat) → ws'[j]? = ws0[j]?) (zQ dC dI cI cL A) A) ([.ref aX, .int x1, .int x2, .int x3, .int x4, .int x5] : List Value).toArray s 0 0 A) (F0 m 35 ls [.int s0_870, .ref aX]) := by
    intro s0_870 ls hf hl
    unfold f_M_domain_J35 at hf
    refine pf_M_50 (v := .int s0_870) hx hb hts hown hK hP hD hS hN_X rfl rfl (Nat.le_of_ble_eq_true rfl) d_M_domain_35 (fun ws H locs hP hD hS hN_X hfr => ?_)
    have hN_X : zA ws 21 (aX, .inr (7, [.int s0_870, .int X_side, .ref aXpicture, .ref aXhalf, .int X_many, .ref aXblocks, .int X_found, .int X_encodedBits, .ref aXencoded, .int X_fedMany, .ref aXfed, .int X_readAt, .int X_why, .int X_tried, .int X_waiting, .ref aXpile, .int X_decoded, .ref aXnews, .ref aXolds, .ref aXhalves, .ref aXds, .ref aXrs, .ref aXbest, .long X_bestError])) := hN_X
    have hN_Xpicture := (hfr _ (by decide)).trans hN_Xpicture
    have hN_Xhalf := (hfr _ (by decide)).trans hN_Xhalf
    have hN_Xds := (hfr _ (by decide)).trans hN_Xds
    have hw := z_fr (by decide) hw hfr
    refine lv_aload_n hx hb d_M_domain_38 rfl (lv_at hl 0 rfl) ?_
    refine gf_M_50 (v := .int s0_870) hx hb hts hown hK hP hN_X rfl d_M_domain_39 ?_
    have jp109_873 : ∀ (X_code_872 : Int32) (ws : va_W) (H : Heap) (locs : List Loc) (ls : Array Slot) (hf : f_M_domain_J109 x1 x2 x3 x4 x5 X_code_872 X_side Xpicture_n Xpicture_f Xhalf_n Xhalf_f Xds_n Xds_f = some r) (hl : lv_has ls 7 [(0, .ref aX), (1, .int x1), (2, .int x2), (3, .int x3), (4, .int x4), (5, .int x5)]) (hP : va_P (dC, dI) classes ws H) (hD : va_D A ws) (hS : va_S A s.heap H locs) (hN_X : zA ws 21 (aX, .inr (7, [.int X_code_872, .int X_side, .ref aXpicture, .ref aXhalf, .int X_many, .ref aXblocks, .int X_found, .int X_encodedBits, .ref aXencoded, .int X_fedMany, .ref aXfed, .int X_readAt, .int X_why, .int X_tried, .int X_waiting, .ref aXpile, .int X_decoded, .ref aXnews, .ref aXolds, .ref aXhalves, .ref aXds, .ref aXrs, .ref aXbest, .long X_bestError]))) (hN_Xpicture : zA ws 22 (aXpicture, .inl (cI, Xpicture_n, .inl Xpicture_f))) (hN_Xhalf : zA ws 23 (aXhalf, .inl (cI, Xhalf_n, .inl Xhalf_f))) (hN_Xds : zA ws 31 (aXds, .inl (cI, Xds_n, .inl Xds_f))) (hw : ∀ (j : Nat), j ∉ ([21, 23, 31] : List Nat) → ws[j]? = ws0[j]?), W p l e (headSpec w_M_domain rm_M_domain).room s m ([.ref aX, .int x1, .int x2, .int x3, .int x4, .int x5] : List Value).toArray below meth c H locs 0 0 (MQ below (va_Qi (fun (v : Int32) (ws' : va_W) => v = r.1 ∧ zA ws' 21 (aX, .inr (7, [.int r.2.1, .int X_side, .ref aXpicture, .ref aXhalf, .int X_many, .ref aXblocks, .int X_found, .int X_encodedBits, .ref aXencoded, .int X_fedMany, .ref aXfed, .int X_readAt, .int X_why, .int X_tried, .int X_waiting, .ref aXpile, .int X_decoded, .ref aXnews, .ref aXolds, .ref aXhalves, .ref aXds, .ref aXrs, .ref aXbest, .long X_bestError])) ∧ zA ws' 23 (aXhalf, .inl (cI, Xhalf_n, .inl r.2.2.1)) ∧ zA ws' 31 (aXds, .inl (cI, Xds_n, .inl r.2.2.2)) ∧ ∀ (j : Nat), j ∉ ([21, 23, 31] : List Nat) → ws'[j]? = ws0[j]?) (zQ dC dI cI cL A) A) ([.ref aX, .int x1, .int x2, .int x3, .int x4, .int x5] : List Value).toArray s 0 0 A) (F0 m 109 ls []) := by
      intro X_code_872 ws H locs ls hf hl hP hD hS hN_X hN_Xpicture hN_Xhalf hN_Xds hw
      unfold f_M_domain_J109 at hf
      refine lv_aload_n hx hb d_M_domain_109 rfl (lv_at hl 0 rfl) ?_
      refine gf_M_50 (v := .int X_code_872) hx hb hts hown hK hP hN_X rfl d_M_domain_110 ?_
      refine lv_if_le (tgt := 118) hx hb d_M_domain_113 (by decide) (fun hc => ?_) (fun hc => ?_)
      · have hf := z_t hc hf
        refine lv_aload_n hx hb d_M_domain_118 rfl (lv_at hl 0 rfl) ?_
        refine gf_M_7 (v := .ref aXpicture) hx hb hts hown hK hP hN_X rfl d_M_domain_119 ?_
        refine lv_aload_n hx hb d_M_domain_122 rfl (lv_at hl 0 rfl) ?_
        refine gf_M_46 (v := .int X_side) hx hb hts hown hK hP hN_X rfl d_M_domain_123 ?_
        refine lv_aload_n hx hb d_M_domain_126 rfl (lv_at hl 0 rfl) ?_
        refine gf_M_13 (v := .ref aXhalf) hx hb hts hown hK hP hN_X rfl d_M_domain_127 ?_
        obtain ⟨q874, hc, hf⟩ := z_b hf
        have hFc := z_free hD hS hA
        refine va_callv (va_runS (As := [.ref aXpicture, .int X_side, .ref aXhalf]) (rest := []) ⟨hx, hb, hml, hown, hts⟩ (c_M_halve l dC dI cI cL _ X_side hN_Xpicture hN_Xhalf (by decide) q874 hc) (cw_M_133 hts ⟨Nat.le_of_ble_eq_true rfl, Nat.le_of_ble_eq_true rfl⟩) ⟨zbM, (zpM hP hK hZ hD)⟩ rfl rfl hl.1 rfl (lv_room (Nat.le_of_ble_eq_true rfl)) d_M_domain_130 ⟨Nat.zero_le _, Nat.zero_le _⟩) hS (fun q _ h => hFc q h) hFc (fun ws t H locs ht hvm hu hB hz1 hk1 hS => ?_)
        obtain ⟨hN_Xhalf, hfr⟩ := hu
        obtain ⟨hP, -, hD1⟩ := hB
        rw [ht] at hP
        have hD := hD1.weaken (fun _ _ _ h => hFc _ h)
        have hN_Xhalf : zA ws 23 (aXhalf, .inl (cI, Xhalf_n, .inl q874)) := hN_Xhalf
        have hN_X := (hfr _ (by decide)).trans hN_X
        have hN_Xpicture := (hfr _ (by decide)).trans hN_Xpicture
        have hN_Xds := (hfr _ (by decide)).trans hN_Xds
        have hw := z_frC (by decide) hw hfr
        refine lv_aload_n hx hb d_M_domain_133 rfl (lv_at hl 0 rfl) ?_
        refine lv_iload_n hx hb d_M_domain_134 rfl (lv_at hl 1 rfl) ?_
        refine lv_iload_n hx hb d_M_domain_135 rfl (lv_at hl 2 rfl) ?_
        refine lv_iload_n hx hb d_M_domain_136 rfl (lv_at hl 3 rfl) ?_
        obtain ⟨q875, hc, hf⟩ := z_b hf
        have hFc := z_free hD hS hA
        refine va_callv (va_runV (As := [.int x1, .int x2, .int x3]) (rest := []) ⟨hx, hb, hml, hown, hts⟩ (c_M_layDomain l dC dI cI cL _ x1 x2 x3 hN_X hN_Xhalf hN_Xds q875 hc) (cw_M_105 hts ⟨Nat.le_of_ble_eq_true rfl, Nat.le_of_ble_eq_true rfl⟩) ⟨zbM, va_recv hK hP (ci := 7) rfl hN_X, (zpM hP hK hZ hD)⟩ rfl rfl hl.1 rfl (lv_room (Nat.le_of_ble_eq_true rfl)) d_M_domain_137 ⟨Nat.zero_le _, Nat.zero_le _⟩) hS (fun q _ h => hFc q h) hFc (fun ws t H locs ht hvm hu hB hz1 hk1 hS => ?_)
        obtain ⟨hN_Xds, hfr⟩ := hu
        obtain ⟨hP, -, hD1⟩ := hB
        rw [ht] at hP
        have hD := hD1.weaken (fun _ _ _ h => hFc _ h)
        have hN_Xds : zA ws 31 (aXds, .inl (cI, Xds_n, .inl q875)) := hN_Xds
        have hN_X := (hfr _ (by decide)).trans hN_X
        have hN_Xpicture := (hfr _ (by decide)).trans hN_Xpicture
        have hN_Xhalf := (hfr _ (by decide)).trans hN_Xhalf
        have hw := z_frC (by decide) hw hfr
        refine lv_aload_n hx hb d_M_domain_140 rfl (lv_at hl 0 rfl) ?_
        refine gf_M_37 (v := .ref aXds) hx hb hts hown hK hP hN_X rfl d_M_domain_141 ?_
        refine lv_iload_n hx hb d_M_domain_144 rfl (lv_at hl 1 rfl) ?_
        refine lv_iload hx hb d_M_domain_145 (lv_at hl 5 rfl) ?_
        refine lv_imul hx hb d_M_domain_147 ?_
        refine lv_iload hx hb d_M_domain_148 (lv_at hl 4 rfl) ?_
        refine lv_iadd hx hb d_M_domain_150 ?_
        obtain ⟨hin, hf⟩ := z_no hf
        refine va_iald hx hb hK hP _ 0 hN_Xds rfl hin d_M_domain_151 ?_
        obtain rfl := Option.some.inj hf
        exact W.iret hx hb hr (fun t ht hW => ⟨⟨_, ws, rfl, ⟨rfl, hN_X, hN_Xhalf, hN_Xds, hw⟩, by rw [ht]; exact hP, va_K.moved hW.alike hK, hD⟩, hS.F ht⟩) hS.2.2 d_M_domain_152
      · have hf := z_f hc hf
        refine lv_iconst (v := 0) hx hb d_M_domain_116 (by decide) ?_
        obtain rfl := Option.some.inj hf
        exact W.iret hx hb hr (fun t ht hW => ⟨⟨_, ws, rfl, ⟨rfl, hN_X, hN_Xhalf, hN_Xds, hw⟩, by rw [ht]; exact hP, va_K.moved hW.alike hK, hD⟩, hS.F ht⟩) hS.2.2 d_M_domain_117
    refine lv_if_ne (tgt := 109) hx hb d_M_domain_42 (by decide) (fun hc => ?_) (fun hc => ?_)
    · have hf := z_f hc hf
      exact jp109_873 s0_870 _ _ _ ls hf (lv_sub hl [0, 1, 2, 3, 4, 5] rfl) hP hD hS hN_X hN_Xpicture hN_Xhalf hN_Xds hw
    · have hf := z_t hc hf
      refine lv_aload_n hx hb d_M_domain_45 rfl (lv_at hl 0 rfl) ?_
      refine lv_iload_n hx hb d_M_domain_46 rfl (lv_at hl 1 rfl) ?_
      obtain ⟨q876, hc, hf⟩ := z_b hf
      refine vp_callSi (z_cr (va_runV (As := [.int x1]) (rest := []) ⟨hx, hb, hml, hown, hts⟩ (c_M_domains l dC dI cI cL x1 hN_X q876 hc) (cw_M_69 hts ⟨Nat.le_of_ble_eq_true rfl, Nat.le_of_ble_eq_true rfl⟩) ⟨zbR, va_recv hK hP (ci := 7) rfl hN_X, (zpR hP hK hZ)⟩ rfl rfl hl.1 rfl (lv_room (Nat.le_of_ble_eq_true rfl)) d_M_domain_47 ⟨Nat.zero_le _, Nat.zero_le _⟩)) (fun r877 hv => ?_)
      have hv := hv.symm
      subst hv
      refine lv_aload_n hx hb d_M_domain_50 rfl (lv_at hl 0 rfl) ?_
      refine lv_iload_n hx hb d_M_domain_51 rfl (lv_at hl 1 rfl) ?_
      obtain ⟨q878, hc, hf⟩ := z_b hf
      refine vp_callSi (z_cr (va_runV (As := [.int x1]) (rest := [.int q876]) ⟨hx, hb, hml, hown, hts⟩ (c_M_domains l dC dI cI cL x1 hN_X q878 hc) (cw_M_69 hts ⟨Nat.le_of_ble_eq_true rfl, Nat.le_of_ble_eq_true rfl⟩) ⟨zbR, va_recv hK hP (ci := 7) rfl hN_X, (zpR hP hK hZ)⟩ rfl rfl hl.1 rfl (lv_room (Nat.le_of_ble_eq_true rfl)) d_M_domain_52 ⟨Nat.zero_le _, Nat.zero_le _⟩)) (fun r879 hv => ?_)
      have hv := hv.symm
      subst hv
      refine lv_imul hx hb d_M_domain_55 ?_
      refine lv_istore (lv' := [(6, .int (q876 * q878)), (0, .ref aX), (1, .int x1), (2, .int x2), (3, .int x3), (4, .int x4), (5, .int x5)]) hx hb d_M_domain_56 hl (by decide) rfl (fun ls hl => ?_)
      refine lv_aload_n hx hb d_M_domain_58 rfl (lv_at hl 1 rfl) ?_
      refine lv_iload_n hx hb d_M_domain_59 rfl (lv_at hl 3 rfl) ?_
      refine lv_i2l hx hb d_M_domain_60 rfl ?_
      refine lv_lconst (v := 0) hx hb d_M_domain_61 (by decide) ?_
      refine lv_iload hx hb d_M_domain_62 (lv_at hl 0 rfl) ?_
      refine lv_iconst (v := 1) hx hb d_M_domain_64 (by decide) ?_
      refine lv_isub hx hb d_M_domain_65 ?_
      refine lv_i2l hx hb d_M_domain_66 rfl ?_
      obtain ⟨q880, hc, hf⟩ := z_b hf
      refine vp_callSi (z_cr (va_runS (As := [.long x2.toInt64, .long (0 : Int64), .long (((q876 * q878) - (1 : Int32)).toInt64)]) (rest := [.ref aX]) ⟨hx, hb, hml, hown, hts⟩ (c_M_in l x2.toInt64 (0 : Int64) (((q876 * q878) - (1 : Int32)).toInt64) q880 hc) (cw_M_55 hts ⟨Nat.le_of_ble_eq_true rfl, Nat.le_of_ble_eq_true rfl⟩) ⟨zb0, zp0⟩ rfl rfl hl.1 rfl (lv_room (Nat.le_of_ble_eq_true rfl)) d_M_domain_67 ⟨Nat.zero_le _, Nat.zero_le _⟩)) (fun r881 hv => ?_)
      have hv := hv.symm
      subst hv
      have jp106_883 : ∀ (s0_882 : Int32) (ls : Array Slot) (hf : f_M_domain_J106 x1 x2 x3 x4 x5 (q876 * q878) s0_870 X_side Xpicture_n Xpicture_f Xhalf_n Xhalf_f Xds_n Xds_f s0_882 = some r) (hl : lv_has ls 7 [(0, .ref aX), (1, .int x1), (2, .int x2), (3, .int x3), (4, .int x4), (5, .int x5), (6, .int (q876 * q878))]), W p l e (headSpec w_M_domain rm_M_domain).room s m ([.ref aX, .int x1, .int x2, .int x3, .int x4, .int x5] : List Value).toArray below meth c H locs 0 0 (MQ below (va_Qi (fun (v : Int32) (ws' : va_W) => v = r.1 ∧ zA ws' 21 (aX, .inr (7, [.int r.2.1, .int X_side, .ref aXpicture, .ref aXhalf, .int X_many, .ref aXblocks, .int X_found, .int X_encodedBits, .ref aXencoded, .int X_fedMany, .ref aXfed, .int X_readAt, .int X_why, .int X_tried, .int X_waiting, .ref aXpile, .int X_decoded, .ref aXnews, .ref aXolds, .ref aXhalves, .ref aXds, .ref aXrs, .ref aXbest, .long X_bestError])) ∧ zA ws' 23 (aXhalf, .inl (cI, Xhalf_n, .inl r.2.2.1)) ∧ zA ws' 31 (aXds, .inl (cI, Xds_n, .inl r.2.2.2)) ∧ ∀ (j : Nat), j ∉ ([21, 23, 31] : List Nat) → ws'[j]? = ws0[j]?) (zQ dC dI cI cL A) A) ([.ref aX, .int x1, .int x2, .int x3, .int x4, .int x5] : List Value).toArray s 0 0 A) (F0 m 106 ls [.int s0_882, .ref aX]) := by
        intro s0_882 ls hf hl
        unfold f_M_domain_J106 at hf
        refine pf_M_50 (v := .int s0_882) hx hb hts hown hK hP hD hS hN_X rfl rfl (Nat.le_of_ble_eq_true rfl) d_M_domain_106 (fun ws H locs hP hD hS hN_X hfr => ?_)
        have hN_X : zA ws 21 (aX, .inr (7, [.int s0_882, .int X_side, .ref aXpicture, .ref aXhalf, .int X_many, .ref aXblocks, .int X_found, .int X_encodedBits, .ref aXencoded, .int X_fedMany, .ref aXfed, .int X_readAt, .int X_why, .int X_tried, .int X_waiting, .ref aXpile, .int X_decoded, .ref aXnews, .ref aXolds, .ref aXhalves, .ref aXds, .ref aXrs, .ref aXbest, .long X_bestError])) := hN_X
        have hN_Xpicture := (hfr _ (by decide)).trans hN_Xpicture
        have hN_Xhalf := (hfr _ (by decide)).trans hN_Xhalf
        have hN_Xds := (hfr _ (by decide)).trans hN_Xds
        have hw := z_fr (by decide) hw hfr
        exact jp109_873 s0_882 _ _ _ ls hf (lv_sub hl [0, 1, 2, 3, 4, 5] rfl) hP hD hS hN_X hN_Xpicture hN_Xhalf hN_Xds hw
      refine lv_if_eq (tgt := 105) hx hb d_M_domain_70 (by decide) (fun hc => ?_) (fun hc => ?_)
      · have hf := z_t hc hf
        refine lv_iconst (v := 2) hx hb d_M_domain_105 (by decide) ?_
        exact jp106_883 (2 : Int32) ls hf (lv_sub hl [1, 2, 3, 4, 5, 6, 0] rfl)
      · have hf := z_f hc hf
        refine lv_iload hx hb d_M_domain_73 (lv_at hl 5 rfl) ?_
        refine lv_i2l hx hb d_M_domain_75 rfl ?_
        refine lv_lconst (v := 0) hx hb d_M_domain_76 (by decide) ?_
        refine lv_iload_n hx hb d_M_domain_77 rfl (lv_at hl 2 rfl) ?_
        refine lv_iconst (v := 1) hx hb d_M_domain_78 (by decide) ?_
        refine lv_isub hx hb d_M_domain_79 ?_
        refine lv_i2l hx hb d_M_domain_80 rfl ?_
        obtain ⟨q884, hc, hf⟩ := z_b hf
        refine vp_callSi (z_cr (va_runS (As := [.long x4.toInt64, .long (0 : Int64), .long ((x1 - (1 : Int32)).toInt64)]) (rest := [.ref aX]) ⟨hx, hb, hml, hown, hts⟩ (c_M_in l x4.toInt64 (0 : Int64) ((x1 - (1 : Int32)).toInt64) q884 hc) (cw_M_55 hts ⟨Nat.le_of_ble_eq_true rfl, Nat.le_of_ble_eq_true rfl⟩) ⟨zb0, zp0⟩ rfl rfl hl.1 rfl (lv_room (Nat.le_of_ble_eq_true rfl)) d_M_domain_81 ⟨Nat.zero_le _, Nat.zero_le _⟩)) (fun r885 hv => ?_)
        have hv := hv.symm
        subst hv
        refine lv_if_eq (tgt := 105) hx hb d_M_domain_84 (by decide) (fun hc => ?_) (fun hc => ?_)
        · have hf := z_t hc hf
          refine lv_iconst (v := 2) hx hb d_M_domain_105 (by decide) ?_
          exact jp106_883 (2 : Int32) ls hf (lv_sub hl [1, 2, 3, 4, 5, 6, 0] rfl)
        · have hf := z_f hc hf
          refine lv_iload hx hb d_M_domain_87 (lv_at hl 6 rfl) ?_
          refine lv_i2l hx hb d_M_domain_89 rfl ?_
          refine lv_lconst (v := 0) hx hb d_M_domain_90 (by decide) ?_
          refine lv_iload_n hx hb d_M_domain_91 rfl (lv_at hl 2 rfl) ?_
          refine lv_iconst (v := 1) hx hb d_M_domain_92 (by decide) ?_
          refine lv_isub hx hb d_M_domain_93 ?_
          refine lv_i2l hx hb d_M_domain_94 rfl ?_
          obtain ⟨q886, hc, hf⟩ := z_b hf
          refine vp_callSi (z_cr (va_runS (As := [.long x5.toInt64, .long (0 : Int64), .long ((x1 - (1 : Int32)).toInt64)]) (rest := [.ref aX]) ⟨hx, hb, hml, hown, hts⟩ (c_M_in l x5.toInt64 (0 : Int64) ((x1 - (1 : Int32)).toInt64) q886 hc) (cw_M_55 hts ⟨Nat.le_of_ble_eq_true rfl, Nat.le_of_ble_eq_true rfl⟩) ⟨zb0, zp0⟩ rfl rfl hl.1 rfl (lv_room (Nat.le_of_ble_eq_true rfl)) d_M_domain_95 ⟨Nat.zero_le _, Nat.zero_le _⟩)) (fun r887 hv => ?_)
          have hv := hv.symm
          subst hv
          refine lv_if_eq (tgt := 105) hx hb d_M_domain_98 (by decide) (fun hc => ?_) (fun hc => ?_)
          · have hf := z_t hc hf
            refine lv_iconst (v := 2) hx hb d_M_domain_105 (by decide) ?_
            exact jp106_883 (2 : Int32) ls hf (lv_sub hl [1, 2, 3, 4, 5, 6, 0] rfl)
          · have hf := z_f hc hf
            refine lv_iconst (v := 0) hx hb d_M_domain_101 (by decide) ?_
            refine lv_goto (tgt := 106) hx hb d_M_domain_102 (by decide) ?_
            exact jp106_883 (0 : Int32) ls hf (lv_sub hl [1, 2, 3, 4, 5, 6, 0] rfl)
  refine lv_if_eq (tgt := 30) hx hb d_M_domain_5 (by decide) (fun hc => ?_) (fun hc => ?_)
  · have hf := z_t hc hf
    refine lv_iconst (v := 1) hx hb d_M_domain_30 (by decide) ?_
    refine lv_goto (tgt := 35) hx hb d_M_domain_31 (by decide) ?_
    exact jp35_871 (1 : Int32) ls hf (lv_sub hl [0, 1, 2, 3, 4, 5] rfl)
  · have hf := z_f hc hf
    refine lv_iconst (v := 2) hx hb d_M_domain_8 (by decide) ?_
    refine lv_iload_n hx hb d_M_domain_9 rfl (lv_at hl 1 rfl) ?_
    refine lv_imul hx hb d_M_domain_10 ?_
    refine lv_aload_n hx hb d_M_domain_11 rfl (lv_at hl 0 rfl) ?_
    refine gf_M_46 (v := .int X_side) hx hb hts hown hK hP hN_X rfl d_M_domain_12 ?_
    refine lv_icmp_gt (tgt := 30) hx hb d_M_domain_15 (by decide) (fun hc => ?_) (fun hc => ?_)
    · have hf := z_t hc hf
      refine lv_iconst (v := 1) hx hb d_M_domain_30 (by decide) ?_
      refine lv_goto (tgt := 35) hx hb d_M_domain_31 (by decide) ?_
      exact jp35_871 (1 : Int32) ls hf (lv_sub hl [0, 1, 2, 3, 4, 5] rfl)
    · have hf := z_f hc hf
      refine lv_iload_n hx hb d_M_domain_18 rfl (lv_at hl 3 rfl) ?_
      refine lv_i2l hx hb d_M_domain_19 rfl ?_
      refine lv_lconst (v := 0) hx hb d_M_domain_20 (by decide) ?_
      refine lv_ldc2 (v := 7) hx hb hown (hts _ lk_M_157) d_M_domain_21 ?_
      obtain ⟨q888, hc, hf⟩ := z_b hf
      refine vp_callSi (z_cr (va_runS (As := [.long x3.toInt64, .long (0 : Int64), .long (7 : Int64)]) (rest := [.ref aX]) ⟨hx, hb, hml, hown, hts⟩ (c_M_in l x3.toInt64 (0 : Int64) (7 : Int64) q888 hc) (cw_M_55 hts ⟨Nat.le_of_ble_eq_true rfl, Nat.le_of_ble_eq_true rfl⟩) ⟨zb0, zp0⟩ rfl rfl hl.1 rfl (lv_room (Nat.le_of_ble_eq_true rfl)) d_M_domain_24 ⟨Nat.zero_le _, Nat.zero_le _⟩)) (fun r889 hv => ?_)
      have hv := hv.symm
      subst hv
      refine lv_if_ne (tgt := 34) hx hb d_M_domain_27 (by decide) (fun hc => ?_) (fun hc => ?_)
      · have hf := z_f hc hf
        refine lv_iconst (v := 0) hx hb d_M_domain_34 (by decide) ?_
        exact jp35_871 (0 : Int32) ls hf (lv_sub hl [0, 1, 2, 3, 4, 5] rfl)
      · have hf := z_t hc hf
        refine lv_iconst (v := 1) hx hb d_M_domain_30 (by decide) ?_
        refine lv_goto (tgt := 35) hx hb d_M_domain_31 (by decide) ?_
        exact jp35_871 (1 : Int32) ls hf (lv_sub hl [0, 1, 2, 3, 4, 5] rfl)
def f_M_mapped (x1 : Int32) (x2 : Int32) : Option (Int32) := if 0 ≤ (x1 * x2) then (some ((x1 * x2) / (8 : Int32))) else (some (-(((7 : Int32) - (x1 * x2)) / (8 : Int32))))
set_option maxHeartbeats 4000000 in
set_option maxRecDepth 100000 in
theorem c_M_mapped (l : Launch) (x1 : Int32) (x2 : Int32) (r : Int32) (hf : f_M_mapped x1 x2 = some r) : Met l y_M_mapped w_M_mapped rm_M_mapped (va_Pc [.int x1, .int x2] (fun _ => True)) (vp_Si (fun v => v = r)) 0 0 (fun _ => False) := by
  refine Met.ofW (cc := b_M_mapped) (maxL := 3) (ret := some .int) (by decide) rfl ?_
  intro p e s m args below meth c s₁ B hml hv
  obtain ⟨rfl, -⟩ := hv
  have hx := B.exec
  have hb := B.bytes
  have hr := B.returns
  have hlocks := B.notSynchronized
  have hts : ∀ w ∈ BIG, w.before ([.int x1, .int x2] : List Value).toArray s = true := fun w h => atoms_spec (ws := w_M_mapped) B.pre w (List.mem_cons_of_mem _ h)
  have hown : s.vm.findClass "FractalMapsModel" = some m.cls := findClass_of_methodNamed B.named
  have hl := lv_entry ([.int x1, .int x2]) (n := 3) (Nat.le_of_ble_eq_true rfl)
  rw [lg_entry_eq]
  generalize (lg_sl ([.int x1, .int x2]) ++ List.replicate (3 - (lg_sl ([.int x1, .int x2])).length) Slot.unset).toArray = ls at hl ⊢
  have hl : lv_has ls 3 [(0, .int x1), (1, .int x2)] := hl
  unfold f_M_mapped at hf
  refine lv_iload_n hx hb d_M_mapped_0 rfl (lv_at hl 0 rfl) ?_
  refine lv_iload_n hx hb d_M_mapped_1 rfl (lv_at hl 1 rfl) ?_
  refine lv_imul hx hb d_M_mapped_2 ?_
  refine lv_istore_n (lv' := [(2, .int (x1 * x2)), (0, .int x1), (1, .int x2)]) hx hb d_M_mapped_3 rfl hl (by decide) rfl (fun ls hl => ?_)
  refine lv_iload_n hx hb d_M_mapped_4 rfl (lv_at hl 0 rfl) ?_
  refine lv_if_ge (tgt := 19) hx hb d_M_mapped_5 (by decide) (fun hc => ?_) (fun hc => ?_)
  · have hf := z_t hc hf
    refine lv_iload_n hx hb d_M_mapped_19 rfl (lv_at hl 0 rfl) ?_
    refine lv_bipush (v := 8) hx hb d_M_mapped_20 (by decide) ?_
    refine lv_idiv hx hb d_M_mapped_22 (by decide) ?_
    obtain rfl := Option.some.inj hf
    exact W.iret hx hb hr (fun t ht hW => ⟨_, rfl, rfl, ht⟩) (fun q h => by cases h) d_M_mapped_23
  · have hf := z_f hc hf
    refine lv_bipush (v := 7) hx hb d_M_mapped_8 (by decide) ?_
    refine lv_iload_n hx hb d_M_mapped_10 rfl (lv_at hl 0 rfl) ?_
    refine lv_isub hx hb d_M_mapped_11 ?_
    refine lv_bipush (v := 8) hx hb d_M_mapped_12 (by decide) ?_
    refine lv_idiv hx hb d_M_mapped_14 (by decide) ?_
    refine lv_ineg hx hb d_M_mapped_15 ?_
    refine lv_goto (tgt := 23) hx hb d_M_mapped_16 (by decide) ?_
    obtain rfl := Option.some.inj hf
    exact W.iret hx hb hr (fun t ht hW => ⟨_, rfl, rfl, ht⟩) (fun q h => by cases h) d_M_mapped_23
