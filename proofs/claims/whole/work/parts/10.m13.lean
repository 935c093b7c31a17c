def f_F_decodeBlock_104 (p1 : Int32) (p2 : Int32) (p3 : Int32) (p4 : Int32) (p5 : Int32) (p6 : Int32) (p7 : Int32) (p9 : Int32) (N_side : Int32) (NA_n : Nat) (HA_n : Nat) (HA_f : Nat → Int32) (V_start : Int32) (V_stepAcross : Int32) (V_stepDown : Int32) : Nat → Int32 → Int32 → (Nat → Int32) → Option (Int32 × Int32 × (Nat → Int32))
  | 0, _, _, _ => none
  | n + 1, v8, v10, NA_f => if p5 ≤ v10 then (some (v8, v10, NA_f)) else ((f_V_sample v10 p9 V_start V_stepAcross V_stepDown HA_n HA_f).bind (fun q556 => (f_F_dimmed q556 p6).bind (fun q558 => (f_F_brought ((q558 + p7).toInt64) (0 : Int64) (255 : Int64)).bind (fun q560 => (f_G_sample (p3 + v10) (p4 + p9) N_side NA_n NA_f).bind (fun q562 => (f_G_set (p3 + v10) (p4 + p9) q560.toInt32 N_side NA_n NA_f).bind (fun q564 => f_F_decodeBlock_104 p1 p2 p3 p4 p5 p6 p7 p9 N_side NA_n HA_n HA_f V_start V_stepAcross V_stepDown n (if v8 < (if 0 ≤ (q560.toInt32 - q562) then (q560.toInt32 - q562) else 0 - (q560.toInt32 - q562)) then (if 0 ≤ (q560.toInt32 - q562) then (q560.toInt32 - q562) else 0 - (q560.toInt32 - q562)) else v8) (v10 + 1) q564))))))
def f_F_decodeBlock_94 (p1 : Int32) (p2 : Int32) (p3 : Int32) (p4 : Int32) (p5 : Int32) (p6 : Int32) (p7 : Int32) (N_side : Int32) (NA_n : Nat) (HA_n : Nat) (HA_f : Nat → Int32) (V_start : Int32) (V_stepAcross : Int32) (V_stepDown : Int32) : Nat → Int32 → Int32 → (Nat → Int32) → Option (Int32 × Int32 × (Nat → Int32))
  | 0, _, _, _ => none
  | n + 1, v8, v9, NA_f => if p5 ≤ v9 then (some (v8, v9, NA_f)) else ((f_F_decodeBlock_104 p1 p2 p3 p4 p5 p6 p7 v9 N_side NA_n HA_n HA_f V_start V_stepAcross V_stepDown FU v8 (0 : Int32) NA_f).bind (fun q565 => f_F_decodeBlock_94 p1 p2 p3 p4 p5 p6 p7 N_side NA_n HA_n HA_f V_start V_stepAcross V_stepDown n q565.1 (v9 + 1) q565.2.2))
def f_F_decodeBlock (x1 : Int32) (x2 : Int32) (N_side : Int32) (NA_n : Nat) (NA_f : Nat → Int32) (H_side : Int32) (HA_n : Nat) (HA_f : Nat → Int32) (V_left : Int32) (V_top : Int32) (V_start : Int32) (V_stepAcross : Int32) (V_stepDown : Int32) (K_count : Int32) (KA_n : Nat) (KA_f : Nat → Int32) : Option (Int32 × (Nat → Int32) × Int32 × Int32 × Int32 × Int32 × Int32) := (f_K_fact x1 (0 : Int32) K_count KA_n KA_f).bind (fun q541 => (f_K_fact x1 (1 : Int32) K_count KA_n KA_f).bind (fun q543 => (f_K_fact x1 (2 : Int32) K_count KA_n KA_f).bind (fun q545 => (f_K_fact x1 (5 : Int32) K_count KA_n KA_f).bind (fun q547 => (f_K_fact x1 (6 : Int32) K_count KA_n KA_f).bind (fun q549 => (f_K_fact x1 (3 : Int32) K_count KA_n KA_f).bind (fun q551 => (f_K_fact x1 (4 : Int32) K_count KA_n KA_f).bind (fun q553 => (f_V_aim (q545 <<< (x2 &&& 31)) q551 q553 V_left V_top V_start H_side).bind (fun q555 => (f_F_decodeBlock_94 x1 x2 (q541 <<< (x2 &&& 31)) (q543 <<< (x2 &&& 31)) (q545 <<< (x2 &&& 31)) q547 q549 N_side NA_n HA_n HA_f q555.2.2.1 q555.2.2.2.1 q555.2.2.2.2 FU (0 : Int32) (0 : Int32) NA_f).bind (fun q579 => some (q579.1, q579.2.2, q555.1, q555.2.1, q555.2.2.1, q555.2.2.2.1, q555.2.2.2.2))))))))))
set_option maxHeartbeats 4000000 in
set_option maxRecDepth 100000 in
theorem c_F_decodeBlock (l : Launch) (dC : Nat → ClassId) (dI : Nat → Nat → Nat) (cI cL : ClassId) {ws0 : va_W} (sz : Nat) {aO aP aN aH aV aS aK aT aC aI aNA aHA aKA : Nat} {O_side N_mostSide N_side H_mostSide H_side V_left V_top V_start V_stepAcross V_stepDown K_count : Int32} {NA_n HA_n KA_n : Nat} {NA_f HA_f KA_f : Nat → Int32} (x1 : Int32) (x2 : Int32) (hN_O : zA ws0 0 (aO, .inr (0, [.int O_side, .ref aP, .ref aN, .ref aH, .ref aV, .ref aS, .ref aK, .ref aT, .ref aC, .ref aI]))) (hN_N : zA ws0 3 (aN, .inr (1, [.int N_mostSide, .ref aNA, .int N_side]))) (hN_NA : zA ws0 4 (aNA, .inl (cI, NA_n, .inl NA_f))) (hN_H : zA ws0 5 (aH, .inr (1, [.int H_mostSide, .ref aHA, .int H_side]))) (hN_HA : zA ws0 6 (aHA, .inl (cI, HA_n, .inl HA_f))) (hN_V : zA ws0 7 (aV, .inr (2, [.ref aH, .int V_left, .int V_top, .int V_start, .int V_stepAcross, .int V_stepDown]))) (hN_K : zA ws0 14 (aK, .inr (5, [.ref aKA, .int K_count]))) (hN_KA : zA ws0 15 (aKA, .inl (cI, KA_n, .inl KA_f))) (r : Int32 × (Nat → Int32) × Int32 × Int32 × Int32 × Int32 × Int32) (hf : f_F_decodeBlock x1 x2 N_side NA_n NA_f H_side HA_n HA_f V_left V_top V_start V_stepAcross V_stepDown K_count KA_n KA_f = some r) : Met l y_F_decodeBlock w_F_decodeBlock rm_F_decodeBlock (va_Pc [.ref aO, .int x1, .int x2] (zM dC dI cI cL ws0 sz)) (va_Qi (fun (v : Int32) (ws' : va_W) => v = r.1 ∧ zA ws' 4 (aNA, .inl (cI, NA_n, .inl r.2.1)) ∧ zA ws' 7 (aV, .inr (2, [.ref aH, .int r.2.2.1, .int r.2.2.2.1, .int r.2.2.2.2.1, .int r.2.2.2.2.2.1, .int r.2.2.2.2.2.2])) ∧ ∀ (j : Nat), j ∉ ([4, 7] : List Nat) → ws'[j]? = ws0[j]?) (zQ dC dI cI cL (va_A ws0 sz)) (va_A ws0 sz)) 0 0 (va_A ws0 sz) := by
  refine Met.ofW (cc := b_F_decodeBlock) (maxL := 13) (ret := some .int) (by decide) rfl ?_
  intro p e s m args below meth c s₁ B hml hv
  obtain ⟨rfl, hsz, hP, hK, hZ, hD0⟩ := hv
  have hx := B.exec
  have hb := B.bytes
  have hr := B.returns
  have hlocks := B.notSynchronized
  have hts : ∀ w ∈ BIG, w.before ([.ref aO, .int x1, .int x2] : List Value).toArray s = true := fun w h => atoms_spec (ws := w_F_decodeBlock) B.pre w (List.mem_cons_of_mem _ h)
  have hown : s.vm.findClass "FractalMaps" = some m.cls := findClass_of_methodNamed B.named
  subst hsz
  have hD := hD0.self (sz := s.heap.size)
  generalize hAe : va_A ws0 s.heap.size = A at hD ⊢
  have hA : ∀ q : Nat, s.heap.size ≤ q → A q := fun q h => by rw [← hAe]; exact Or.inr h
  have hS : va_S A s.heap s.heap [] := va_S.rf
  have hw : ∀ (j : Nat), j ∉ ([4, 7] : List Nat) → ws0[j]? = ws0[j]? := fun _ _ => rfl
  have hl := lv_entry ([.ref aO, .int x1, .int x2]) (n := 13) (Nat.le_of_ble_eq_true rfl)
  rw [lg_entry_eq]
  generalize (lg_sl ([.ref aO, .int x1, .int x2]) ++ List.replicate (13 - (lg_sl ([.ref aO, .int x1, .int x2])).length) Slot.unset).toArray = ls at hl ⊢
  have hl : lv_has ls 13 [(0, .ref aO), (1, .int x1), (2, .int x2)] := hl
  unfold f_F_decodeBlock at hf
  refine lv_aload_n hx hb d_F_decodeBlock_0 rfl (lv_at hl 0 rfl) ?_
  refine gf_F_60 (v := .ref aK) hx hb hts hown hK hP hN_O rfl d_F_decodeBlock_1 ?_
  refine lv_iload_n hx hb d_F_decodeBlock_4 rfl (lv_at hl 1 rfl) ?_
  refine lv_iconst (v := 0) hx hb d_F_decodeBlock_5 (by decide) ?_
  obtain ⟨q541, hc, hf⟩ := z_b hf
  refine vp_callSi (z_cr (va_runV (As := [.int x1, .int (0 : Int32)]) (rest := []) ⟨hx, hb, hml, hown, hts⟩ (c_K_fact l dC dI cI cL x1 (0 : Int32) hN_K hN_KA q541 hc) (cw_F_143 hts ⟨Nat.le_of_ble_eq_true rfl, Nat.le_of_ble_eq_true rfl⟩) ⟨zbR, va_recv hK hP (ci := 5) rfl hN_K, (zpR hP hK hZ)⟩ rfl rfl hl.1 rfl (lv_room (Nat.le_of_ble_eq_true rfl)) d_F_decodeBlock_6 ⟨Nat.zero_le _, Nat.zero_le _⟩)) (fun r542 hv => ?_)
  have hv := hv.symm
  subst hv
  refine lv_iload_n hx hb d_F_decodeBlock_9 rfl (lv_at hl 2 rfl) ?_
  refine lv_ishl hx hb d_F_decodeBlock_10 ?_
  refine lv_istore_n (lv' := [(3, .int (q541 <<< (x2 &&& 31))), (0, .ref aO), (1, .int x1), (2, .int x2)]) hx hb d_F_decodeBlock_11 rfl hl (by decide) rfl (fun ls hl => ?_)
  refine lv_aload_n hx hb d_F_decodeBlock_12 rfl (lv_at hl 1 rfl) ?_
  refine gf_F_60 (v := .ref aK) hx hb hts hown hK hP hN_O rfl d_F_decodeBlock_13 ?_
  refine lv_iload_n hx hb d_F_decodeBlock_16 rfl (lv_at hl 2 rfl) ?_
  refine lv_iconst (v := 1) hx hb d_F_decodeBlock_17 (by decide) ?_
  obtain ⟨q543, hc, hf⟩ := z_b hf
  refine vp_callSi (z_cr (va_runV (As := [.int x1, .int (1 : Int32)]) (rest := []) ⟨hx, hb, hml, hown, hts⟩ (c_K_fact l dC dI cI cL x1 (1 : Int32) hN_K hN_KA q543 hc) (cw_F_143 hts ⟨Nat.le_of_ble_eq_true rfl, Nat.le_of_ble_eq_true rfl⟩) ⟨zbR, va_recv hK hP (ci := 5) rfl hN_K, (zpR hP hK hZ)⟩ rfl rfl hl.1 rfl (lv_room (Nat.le_of_ble_eq_true rfl)) d_F_decodeBlock_18 ⟨Nat.zero_le _, Nat.zero_le _⟩)) (fun r544 hv => ?_)
  have hv := hv.symm
  subst hv
  refine lv_iload_n hx hb d_F_decodeBlock_21 rfl (lv_at hl 3 rfl) ?_
  refine lv_ishl hx hb d_F_decodeBlock_22 ?_
  refine lv_istore (lv' := [(4, .int (q543 <<< (x2 &&& 31))), (3, .int (q541 <<< (x2 &&& 31))), (0, .ref aO), (1, .int x1), (2, .int x2)]) hx hb d_F_decodeBlock_23 hl (by decide) rfl (fun ls hl => ?_)
  refine lv_aload_n hx hb d_F_decodeBlock_25 rfl (lv_at hl 2 rfl) ?_
  refine gf_F_60 (v := .ref aK) hx hb hts hown hK hP hN_O rfl d_F_decodeBlock_26 ?_
  refine lv_iload_n hx hb d_F_decodeBlock_29 rfl (lv_at hl 3 rfl) ?_
  refine lv_iconst (v := 2) hx hb d_F_decodeBlock_30 (by decide) ?_
  obtain ⟨q545, hc, hf⟩ := z_b hf
  refine vp_callSi (z_cr (va_runV (As := [.int x1, .int (2 : Int32)]) (rest := []) ⟨hx, hb, hml, hown, hts⟩ (c_K_fact l dC dI cI cL x1 (2 : Int32) hN_K hN_KA q545 hc) (cw_F_143 hts ⟨Nat.le_of_ble_eq_true rfl, Nat.le_of_ble_eq_true rfl⟩) ⟨zbR, va_recv hK hP (ci := 5) rfl hN_K, (zpR hP hK hZ)⟩ rfl rfl hl.1 rfl (lv_room (Nat.le_of_ble_eq_true rfl)) d_F_decodeBlock_31 ⟨Nat.zero_le _, Nat.zero_le _⟩)) (fun r546 hv => ?_)
  have hv := hv.symm
  subst hv
  refine lv_iload_n hx hb d_F_decodeBlock_34 rfl (lv_at hl 4 rfl) ?_
  refine lv_ishl hx hb d_F_decodeBlock_35 ?_
  refine lv_istore (lv' := [(5, .int (q545 <<< (x2 &&& 31))), (4, .int (q543 <<< (x2 &&& 31))), (3, .int (q541 <<< (x2 &&& 31))), (0, .ref aO), (1, .int x1), (2, .int x2)]) hx hb d_F_decodeBlock_36 hl (by decide) rfl (fun ls hl => ?_)
  refine lv_aload_n hx hb d_F_decodeBlock_38 rfl (lv_at hl 3 rfl) ?_
  refine gf_F_60 (v := .ref aK) hx hb hts hown hK hP hN_O rfl d_F_decodeBlock_39 ?_
  refine lv_iload_n hx hb d_F_decodeBlock_42 rfl (lv_at hl 4 rfl) ?_
  refine lv_iconst (v := 5) hx hb d_F_decodeBlock_43 (by decide) ?_
  obtain ⟨q547, hc, hf⟩ := z_b hf
  refine vp_callSi (z_cr (va_runV (As := [.int x1, .int (5 : Int32)]) (rest := []) ⟨hx, hb, hml, hown, hts⟩ (c_K_fact l dC dI cI cL x1 (5 : Int32) hN_K hN_KA q547 hc) (cw_F_143 hts ⟨Nat.le_of_ble_eq_true rfl, Nat.le_of_ble_eq_true rfl⟩) ⟨zbR, va_recv hK hP (ci := 5) rfl hN_K, (zpR hP hK hZ)⟩ rfl rfl hl.1 rfl (lv_room (Nat.le_of_ble_eq_true rfl)) d_F_decodeBlock_44 ⟨Nat.zero_le _, Nat.zero_le _⟩)) (fun r548 hv => ?_)
  have hv := hv.symm
  subst hv
  refine lv_istore (lv' := [(6, .int q547), (5, .int (q545 <<< (x2 &&& 31))), (4, .int (q543 <<< (x2 &&& 31))), (3, .int (q541 <<< (x2 &&& 31))), (0, .ref aO), (1, .int x1), (2, .int x2)]) hx hb d_F_decodeBlock_47 hl (by decide) rfl (fun ls hl => ?_)
  refine lv_aload_n hx hb d_F_decodeBlock_49 rfl (lv_at hl 4 rfl) ?_
  refine gf_F_60 (v := .ref aK) hx hb hts hown hK hP hN_O rfl d_F_decodeBlock_50 ?_
  refine lv_iload_n hx hb d_F_decodeBlock_53 rfl (lv_at hl 5 rfl) ?_
  refine lv_bipush (v := 6) hx hb d_F_decodeBlock_54 (by decide) ?_
  obtain ⟨q549, hc, hf⟩ := z_b hf
  refine vp_callSi (z_cr (va_runV (As := [.int x1, .int (6 : Int32)]) (rest := []) ⟨hx, hb, hml, hown, hts⟩ (c_K_fact l dC dI cI cL x1 (6 : Int32) hN_K hN_KA q549 hc) (cw_F_143 hts ⟨Nat.le_of_ble_eq_true rfl, Nat.le_of_ble_eq_true rfl⟩) ⟨zbR, va_recv hK hP (ci := 5) rfl hN_K, (zpR hP hK hZ)⟩ rfl rfl hl.1 rfl (lv_room (Nat.le_of_ble_eq_true rfl)) d_F_decodeBlock_56 ⟨Nat.zero_le _, Nat.zero_le _⟩)) (fun r550 hv => ?_)
  have hv := hv.symm
  subst hv
  refine lv_istore (lv' := [(7, .int q549), (6, .int q547), (5, .int (q545 <<< (x2 &&& 31))), (4, .int (q543 <<< (x2 &&& 31))), (3, .int (q541 <<< (x2 &&& 31))), (0, .ref aO), (1, .int x1), (2, .int x2)]) hx hb d_F_decodeBlock_59 hl (by decide) rfl (fun ls hl => ?_)
  refine lv_aload_n hx hb d_F_decodeBlock_61 rfl (lv_at hl 5 rfl) ?_
  refine gf_F_42 (v := .ref aV) hx hb hts hown hK hP hN_O rfl d_F_decodeBlock_62 ?_
  refine lv_iload hx hb d_F_decodeBlock_65 (lv_at hl 2 rfl) ?_
  refine lv_aload_n hx hb d_F_decodeBlock_67 rfl (lv_at hl 5 rfl) ?_
  refine gf_F_60 (v := .ref aK) hx hb hts hown hK hP hN_O rfl d_F_decodeBlock_68 ?_
  refine lv_iload_n hx hb d_F_decodeBlock_71 rfl (lv_at hl 6 rfl) ?_
  refine lv_iconst (v := 3) hx hb d_F_decodeBlock_72 (by decide) ?_
  obtain ⟨q551, hc, hf⟩ := z_b hf
  refine vp_callSi (z_cr (va_runV (As := [.int x1, .int (3 : Int32)]) (rest := [.int (q545 <<< (x2 &&& 31)), .ref aV]) ⟨hx, hb, hml, hown, hts⟩ (c_K_fact l dC dI cI cL x1 (3 : Int32) hN_K hN_KA q551 hc) (cw_F_143 hts ⟨Nat.le_of_ble_eq_true rfl, Nat.le_of_ble_eq_true rfl⟩) ⟨zbR, va_recv hK hP (ci := 5) rfl hN_K, (zpR hP hK hZ)⟩ rfl rfl hl.1 rfl (lv_room (Nat.le_of_ble_eq_true rfl)) d_F_decodeBlock_73 ⟨Nat.zero_le _, Nat.zero_le _⟩)) (fun r552 hv => ?_)
  have hv := hv.symm
  subst hv
  refine lv_aload_n hx hb d_F_decodeBlock_76 rfl (lv_at hl 5 rfl) ?_
  refine gf_F_60 (v := .ref aK) hx hb hts hown hK hP hN_O rfl d_F_decodeBlock_77 ?_
  refine lv_iload_n hx hb d_F_decodeBlock_80 rfl (lv_at hl 6 rfl) ?_
  refine lv_iconst (v := 4) hx hb d_F_decodeBlock_81 (by decide) ?_
  obtain ⟨q553, hc, hf⟩ := z_b hf
  refine vp_callSi (z_cr (va_runV (As := [.int x1, .int (4 : Int32)]) (rest := [.int q551, .int (q545 <<< (x2 &&& 31)), .ref aV]) ⟨hx, hb, hml, hown, hts⟩ (c_K_fact l dC dI cI cL x1 (4 : Int32) hN_K hN_KA q553 hc) (cw_F_143 hts ⟨Nat.le_of_ble_eq_true rfl, Nat.le_of_ble_eq_true rfl⟩) ⟨zbR, va_recv hK hP (ci := 5) rfl hN_K, (zpR hP hK hZ)⟩ rfl rfl hl.1 rfl (lv_room (Nat.le_of_ble_eq_true rfl)) d_F_decodeBlock_82 ⟨Nat.zero_le _, Nat.zero_le _⟩)) (fun r554 hv => ?_)
  have hv := hv.symm
  subst hv
  obtain ⟨q555, hc, hf⟩ := z_b hf
  have hFc := z_free hD hS hA
  refine va_callv (va_runV (As := [.int (q545 <<< (x2 &&& 31)), .int q551, .int q553]) (rest := []) ⟨hx, hb, hml, hown, hts⟩ (c_V_aim l dC dI cI cL _ (q545 <<< (x2 &&& 31)) q551 q553 hN_V hN_H q555 hc) (cw_F_202 hts ⟨Nat.le_of_ble_eq_true rfl, Nat.le_of_ble_eq_true rfl⟩) ⟨zbM, va_recv hK hP (ci := 2) rfl hN_V, (zpM hP hK hZ hD)⟩ rfl rfl hl.1 rfl (lv_room (Nat.le_of_ble_eq_true rfl)) d_F_decodeBlock_85 ⟨Nat.zero_le _, Nat.zero_le _⟩) hS (fun q _ h => hFc q h) hFc (fun ws t H locs ht hvm hu hB hz1 hk1 hS => ?_)
  obtain ⟨hN_V, hfr⟩ := hu
  obtain ⟨hP, -, hD1⟩ := hB
  rw [ht] at hP
  have hD := hD1.weaken (fun _ _ _ h => hFc _ h)
  have hN_V : zA ws 7 (aV, .inr (2, [.ref aH, .int q555.1, .int q555.2.1, .int q555.2.2.1, .int q555.2.2.2.1, .int q555.2.2.2.2])) := hN_V
  have hN_O := (hfr _ (by decide)).trans hN_O
  have hN_N := (hfr _ (by decide)).trans hN_N
  have hN_NA := (hfr _ (by decide)).trans hN_NA
  have hN_H := (hfr _ (by decide)).trans hN_H
  have hN_HA := (hfr _ (by decide)).trans hN_HA
  have hN_K := (hfr _ (by decide)).trans hN_K
  have hN_KA := (hfr _ (by decide)).trans hN_KA
  have hw := z_frC (by decide) hw hfr
  refine lv_iconst (v := 0) hx hb d_F_decodeBlock_88 (by decide) ?_
  refine lv_istore (lv' := [(8, .int (0 : Int32)), (7, .int q549), (6, .int q547), (5, .int (q545 <<< (x2 &&& 31))), (4, .int (q543 <<< (x2 &&& 31))), (3, .int (q541 <<< (x2 &&& 31))), (0, .ref aO), (1, .int x1), (2, .int x2)]) hx hb d_F_decodeBlock_89 hl (by decide) rfl (fun ls hl => ?_)
  refine lv_iconst (v := 0) hx hb d_F_decodeBlock_91 (by decide) ?_
  refine lv_istore (lv' := [(9, .int (0 : Int32)), (8, .int (0 : Int32)), (7, .int q549), (6, .int q547), (5, .int (q545 <<< (x2 &&& 31))), (4, .int (q543 <<< (x2 &&& 31))), (3, .int (q541 <<< (x2 &&& 31))), (0, .ref aO), (1, .int x1), (2, .int x2)]) hx hb d_F_decodeBlock_92 hl (by decide) rfl (fun ls hl => ?_)
  have lp583 : ∀ (Qx : State → Prop) (n : Nat) (v8_580 : Int32) (v9_581 : Int32) (NA_f_582 : Nat → Int32) (ws : va_W) (H : Heap) (locs : List Loc) (ls : Array Slot) (q : Int32 × Int32 × (Nat → Int32)) (hf : f_F_decodeBlock_94 x1 x2 (q541 <<< (x2 &&& 31)) (q543 <<< (x2 &&& 31)) (q545 <<< (x2 &&& 31)) q547 q549 N_side NA_n HA_n HA_f q555.2.2.1 q555.2.2.2.1 q555.2.2.2.2 n v8_580 v9_581 NA_f_582 = some q) (hl : lv_has ls 13 [(0, .ref aO), (1, .int x1), (2, .int x2), (3, .int (q541 <<< (x2 &&& 31))), (4, .int (q543 <<< (x2 &&& 31))), (5, .int (q545 <<< (x2 &&& 31))), (6, .int q547), (7, .int q549), (8, .int v8_580), (9, .int v9_581)]) (hP : va_P (dC, dI) classes ws H) (hD : va_D A ws) (hS : va_S A s.heap H locs) (hN_O : zA ws 0 (aO, .inr (0, [.int O_side, .ref aP, .ref aN, .ref aH, .ref aV, .ref aS, .ref aK, .ref aT, .ref aC, .ref aI]))) (hN_N : zA ws 3 (aN, .inr (1, [.int N_mostSide, .ref aNA, .int N_side]))) (hN_NA : zA ws 4 (aNA, .inl (cI, NA_n, .inl NA_f_582))) (hN_H : zA ws 5 (aH, .inr (1, [.int H_mostSide, .ref aHA, .int H_side]))) (hN_HA : zA ws 6 (aHA, .inl (cI, HA_n, .inl HA_f))) (hN_V : zA ws 7 (aV, .inr (2, [.ref aH, .int q555.1, .int q555.2.1, .int q555.2.2.1, .int q555.2.2.2.1, .int q555.2.2.2.2]))) (hN_K : zA ws 14 (aK, .inr (5, [.ref aKA, .int K_count]))) (hN_KA : zA ws 15 (aKA, .inl (cI, KA_n, .inl KA_f))) (hw : ∀ (j : Nat), j ∉ ([4, 7] : List Nat) → ws[j]? = ws0[j]?) (kt0 : ∀ (ws : va_W) (H : Heap) (locs : List Loc) (ls : Array Slot), lv_has ls 13 [(0, .ref aO), (1, .int x1), (2, .int x2), (3, .int (q541 <<< (x2 &&& 31))), (4, .int (q543 <<< (x2 &&& 31))), (5, .int (q545 <<< (x2 &&& 31))), (6, .int q547), (7, .int q549), (8, .int q.1), (9, .int q.2.1)] → (va_P (dC, dI) classes ws H) → (va_D A ws) → (va_S A s.heap H locs) → (zA ws 0 (aO, .inr (0, [.int O_side, .ref aP, .ref aN, .ref aH, .ref aV, .ref aS, .ref aK, .ref aT, .ref aC, .ref aI]))) → (zA ws 3 (aN, .inr (1, [.int N_mostSide, .ref aNA, .int N_side]))) → (zA ws 4 (aNA, .inl (cI, NA_n, .inl q.2.2))) → (zA ws 5 (aH, .inr (1, [.int H_mostSide, .ref aHA, .int H_side]))) → (zA ws 6 (aHA, .inl (cI, HA_n, .inl HA_f))) → (zA ws 7 (aV, .inr (2, [.ref aH, .int q555.1, .int q555.2.1, .int q555.2.2.1, .int q555.2.2.2.1, .int q555.2.2.2.2]))) → (zA ws 14 (aK, .inr (5, [.ref aKA, .int K_count]))) → (zA ws 15 (aKA, .inl (cI, KA_n, .inl KA_f))) → (∀ (j : Nat), j ∉ ([4, 7] : List Nat) → ws[j]? = ws0[j]?) → W p l e (headSpec w_F_decodeBlock rm_F_decodeBlock).room s m ([.ref aO, .int x1, .int x2] : List Value).toArray below meth c H locs 0 0 Qx (F0 m 204 ls [])), W p l e (headSpec w_F_decodeBlock rm_F_decodeBlock).room s m ([.ref aO, .int x1, .int x2] : List Value).toArray below meth c H locs 0 0 Qx (F0 m 94 ls []) := by
    intro Qx n
    induction n with
    | zero => intro v8_580 v9_581 NA_f_582 ws H locs ls q hf; cases hf
    | succ n ih =>
      intro v8_580 v9_581 NA_f_582 ws H locs ls q hf hl hP hD hS hN_O hN_N hN_NA hN_H hN_HA hN_V hN_K hN_KA hw kt0
      rw [f_F_decodeBlock_94] at hf
      refine lv_iload hx hb d_F_decodeBlock_94 (lv_at hl 9 rfl) ?_
      refine lv_iload hx hb d_F_decodeBlock_96 (lv_at hl 5 rfl) ?_
      refine lv_icmp_ge (tgt := 204) hx hb d_F_decodeBlock_98 (by decide) (fun hc => ?_) (fun hc => ?_)
      · have hf := z_t hc hf
        obtain rfl := Option.some.inj hf
        exact kt0 _ _ _ ls (lv_sub hl [0, 1, 2, 3, 4, 5, 6, 7, 8, 9] rfl) hP hD hS hN_O hN_N hN_NA hN_H hN_HA hN_V hN_K hN_KA hw
      · have hf := z_f hc hf
        refine lv_iconst (v := 0) hx hb d_F_decodeBlock_101 (by decide) ?_
        refine lv_istore (lv' := [(10, .int (0 : Int32)), (0, .ref aO), (1, .int x1), (2, .int x2), (3, .int (q541 <<< (x2 &&& 31))), (4, .int (q543 <<< (x2 &&& 31))), (5, .int (q545 <<< (x2 &&& 31))), (6, .int q547), (7, .int q549), (8, .int v8_580), (9, .int v9_581)]) hx hb d_F_decodeBlock_102 hl (by decide) rfl (fun ls hl => ?_)
        have lp588 : ∀ (Qx : State → Prop) (n : Nat) (v8_585 : Int32) (v10_586 : Int32) (NA_f_587 : Nat → Int32) (ws : va_W) (H : Heap) (locs : List Loc) (ls : Array Slot) (q : Int32 × Int32 × (Nat → Int32)) (hf : f_F_decodeBlock_104 x1 x2 (q541 <<< (x2 &&& 31)) (q543 <<< (x2 &&& 31)) (q545 <<< (x2 &&& 31)) q547 q549 v9_581 N_side NA_n HA_n HA_f q555.2.2.1 q555.2.2.2.1 q555.2.2.2.2 n v8_585 v10_586 NA_f_587 = some q) (hl : lv_has ls 13 [(0, .ref aO), (1, .int x1), (2, .int x2), (3, .int (q541 <<< (x2 &&& 31))), (4, .int (q543 <<< (x2 &&& 31))), (5, .int (q545 <<< (x2 &&& 31))), (6, .int q547), (7, .int q549), (8, .int v8_585), (9, .int v9_581), (10, .int v10_586)]) (hP : va_P (dC, dI) classes ws H) (hD : va_D A ws) (hS : va_S A s.heap H locs) (hN_O : zA ws 0 (aO, .inr (0, [.int O_side, .ref aP, .ref aN, .ref aH, .ref aV, .ref aS, .ref aK, .ref aT, .ref aC, .ref aI]))) (hN_N : zA ws 3 (aN, .inr (1, [.int N_mostSide, .ref aNA, .int N_side]))) (hN_NA : zA ws 4 (aNA, .inl (cI, NA_n, .inl NA_f_587))) (hN_H : zA ws 5 (aH, .inr (1, [.int H_mostSide, .ref aHA, .int H_side]))) (hN_HA : zA ws 6 (aHA, .inl (cI, HA_n, .inl HA_f))) (hN_V : zA ws 7 (aV, .inr (2, [.ref aH, .int q555.1, .int q555.2.1, .int q555.2.2.1, .int q555.2.2.2.1, .int q555.2.2.2.2]))) (hN_K : zA ws 14 (aK, .inr (5, [.ref aKA, .int K_count]))) (hN_KA : zA ws 15 (aKA, .inl (cI, KA_n, .inl KA_f))) (hw : ∀ (j : Nat), j ∉ ([4, 7] : List Nat) → ws[j]? = ws0[j]?) (kt0 : ∀ (ws : va_W) (H : Heap) (locs : List Loc) (ls : Array Slot), lv_has ls 13 [(0, .ref aO), (1, .int x1), (2, .int x2), (3, .int (q541 <<< (x2 &&& 31))), (4, .int (q543 <<< (x2 &&& 31))), (5, .int (q545 <<< (x2 &&& 31))), (6, .int q547), (7, .int q549), (8, .int q.1), (9, .int v9_581), (10, .int q.2.1)] → (va_P (dC, dI) classes ws H) → (va_D A ws) → (va_S A s.heap H locs) → (zA ws 0 (aO, .inr (0, [.int O_side, .ref aP, .ref aN, .ref aH, .ref aV, .ref aS, .ref aK, .ref aT, .ref aC, .ref aI]))) → (zA ws 3 (aN, .inr (1, [.int N_mostSide, .ref aNA, .int N_side]))) → (zA ws 4 (aNA, .inl (cI, NA_n, .inl q.2.2))) → (zA ws 5 (aH, .inr (1, [.int H_mostSide, .ref aHA, .int H_side]))) → (zA ws 6 (aHA, .inl (cI, HA_n, .inl HA_f))) → (zA ws 7 (aV, .inr (2, [.ref aH, .int q555.1, .int q555.2.1, .int q555.2.2.1, .int q555.2.2.2.1, .int q555.2.2.2.2]))) → (zA ws 14 (aK, .inr (5, [.ref aKA, .int K_count]))) → (zA ws 15 (aKA, .inl (cI, KA_n, .inl KA_f))) → (∀ (j : Nat), j ∉ ([4, 7] : List Nat) → ws[j]? = ws0[j]?) → W p l e (headSpec w_F_decodeBlock rm_F_decodeBlock).room s m ([.ref aO, .int x1, .int x2] : List Value).toArray below meth c H locs 0 0 Qx (F0 m 198 ls [])), W p l e (headSpec w_F_decodeBlock rm_F_decodeBlock).room s m ([.ref aO, .int x1, .int x2] : List Value).toArray below meth c H locs 0 0 Qx (F0 m 104 ls []) := by
          intro Qx n
          induction n with
          | zero => intro v8_585 v10_586 NA_f_587 ws H locs ls q hf; cases hf
          | succ n ih =>
            intro v8_585 v10_586 NA_f_587 ws H locs ls q hf hl hP hD hS hN_O hN_N hN_NA hN_H hN_HA hN_V hN_K hN_KA hw kt0
            rw [f_F_decodeBlock_104] at hf
            refine lv_iload hx hb d_F_decodeBlock_104 (lv_at hl 10 rfl) ?_
            refine lv_iload hx hb d_F_decodeBlock_106 (lv_at hl 5 rfl) ?_
            refine lv_icmp_ge (tgt := 198) hx hb d_F_decodeBlock_108 (by decide) (fun hc => ?_) (fun hc => ?_)
            · have hf := z_t hc hf
              obtain rfl := Option.some.inj hf
              exact kt0 _ _ _ ls (lv_sub hl [0, 1, 2, 3, 4, 5, 6, 7, 8, 9, 10] rfl) hP hD hS hN_O hN_N hN_NA hN_H hN_HA hN_V hN_K hN_KA hw
            · have hf := z_f hc hf
              refine lv_aload_n hx hb d_F_decodeBlock_111 rfl (lv_at hl 0 rfl) ?_
              refine gf_F_42 (v := .ref aV) hx hb hts hown hK hP hN_O rfl d_F_decodeBlock_112 ?_
              refine lv_iload hx hb d_F_decodeBlock_115 (lv_at hl 10 rfl) ?_
              refine lv_iload hx hb d_F_decodeBlock_117 (lv_at hl 9 rfl) ?_
              obtain ⟨q589, hc, hf⟩ := z_b hf
              refine vp_callSi (z_cr (va_runV (As := [.int v10_586, .int v9_581]) (rest := []) ⟨hx, hb, hml, hown, hts⟩ (c_V_sample l dC dI cI cL v10_586 v9_581 hN_V hN_H hN_HA q589 hc) (cw_F_205 hts ⟨Nat.le_of_ble_eq_true rfl, Nat.le_of_ble_eq_true rfl⟩) ⟨zbR, va_recv hK hP (ci := 2) rfl hN_V, (zpR hP hK hZ)⟩ rfl rfl hl.1 rfl (lv_room (Nat.le_of_ble_eq_true rfl)) d_F_decodeBlock_119 ⟨Nat.zero_le _, Nat.zero_le _⟩)) (fun r590 hv => ?_)
              have hv := hv.symm
              subst hv
              refine lv_iload hx hb d_F_decodeBlock_122 (lv_at hl 6 rfl) ?_
              obtain ⟨q591, hc, hf⟩ := z_b hf
              refine vp_callSi (z_cr (va_runS (As := [.int q589, .int q547]) (rest := []) ⟨hx, hb, hml, hown, hts⟩ (c_F_dimmed l q589 q547 q591 hc) (cw_F_281 hts ⟨Nat.le_of_ble_eq_true rfl, Nat.le_of_ble_eq_true rfl⟩) ⟨zb0, zp0⟩ rfl rfl hl.1 rfl (lv_room (Nat.le_of_ble_eq_true rfl)) d_F_decodeBlock_124 ⟨Nat.zero_le _, Nat.zero_le _⟩)) (fun r592 hv => ?_)
              have hv := hv.symm
              subst hv
              refine lv_iload hx hb d_F_decodeBlock_127 (lv_at hl 7 rfl) ?_
              refine lv_iadd hx hb d_F_decodeBlock_129 ?_
              refine lv_istore (lv' := [(11, .int (q591 + q549)), (0, .ref aO), (1, .int x1), (2, .int x2), (3, .int (q541 <<< (x2 &&& 31))), (4, .int (q543 <<< (x2 &&& 31))), (5, .int (q545 <<< (x2 &&& 31))), (6, .int q547), (7, .int q549), (8, .int v8_585), (9, .int v9_581), (10, .int v10_586)]) hx hb d_F_decodeBlock_130 hl (by decide) rfl (fun ls hl => ?_)
              refine lv_iload hx hb d_F_decodeBlock_132 (lv_at hl 0 rfl) ?_
              refine lv_i2l hx hb d_F_decodeBlock_134 rfl ?_
              refine lv_lconst (v := 0) hx hb d_F_decodeBlock_135 (by decide) ?_
              refine lv_ldc2 (v := 255) hx hb hown (hts _ lk_F_104) d_F_decodeBlock_136 ?_
              obtain ⟨q593, hc, hf⟩ := z_b hf
              refine vp_callSl (z_cr (va_runS (As := [.long ((q591 + q549).toInt64), .long (0 : Int64), .long (255 : Int64)]) (rest := []) ⟨hx, hb, hml, hown, hts⟩ (c_F_brought l ((q591 + q549).toInt64) (0 : Int64) (255 : Int64) q593 hc) (cw_F_106 hts ⟨Nat.le_of_ble_eq_true rfl, Nat.le_of_ble_eq_true rfl⟩) ⟨zb0, zp0⟩ rfl rfl hl.1 rfl (lv_room (Nat.le_of_ble_eq_true rfl)) d_F_decodeBlock_139 ⟨Nat.zero_le _, Nat.zero_le _⟩)) (fun r594 hv => ?_)
              have hv := hv.symm
              subst hv
              refine lv_l2i hx hb d_F_decodeBlock_142 rfl ?_
              refine lv_istore (lv' := [(12, .int q593.toInt32), (11, .int (q591 + q549)), (0, .ref aO), (1, .int x1), (2, .int x2), (3, .int (q541 <<< (x2 &&& 31))), (4, .int (q543 <<< (x2 &&& 31))), (5, .int (q545 <<< (x2 &&& 31))), (6, .int q547), (7, .int q549), (8, .int v8_585), (9, .int v9_581), (10, .int v10_586)]) hx hb d_F_decodeBlock_143 hl (by decide) rfl (fun ls hl => ?_)
              refine lv_iload hx hb d_F_decodeBlock_145 (lv_at hl 10 rfl) ?_
              refine lv_iload hx hb d_F_decodeBlock_147 (lv_at hl 0 rfl) ?_
              refine lv_aload_n hx hb d_F_decodeBlock_149 rfl (lv_at hl 2 rfl) ?_
              refine gf_F_31 (v := .ref aN) hx hb hts hown hK hP hN_O rfl d_F_decodeBlock_150 ?_
              refine lv_iload_n hx hb d_F_decodeBlock_153 rfl (lv_at hl 5 rfl) ?_
              refine lv_iload hx hb d_F_decodeBlock_154 (lv_at hl 12 rfl) ?_
              refine lv_iadd hx hb d_F_decodeBlock_156 ?_
              refine lv_iload hx hb d_F_decodeBlock_157 (lv_at hl 6 rfl) ?_
              refine lv_iload hx hb d_F_decodeBlock_159 (lv_at hl 11 rfl) ?_
              refine lv_iadd hx hb d_F_decodeBlock_161 ?_
              obtain ⟨q595, hc, hf⟩ := z_b hf
              refine vp_callSi (z_cr (va_runV (As := [.int ((q541 <<< (x2 &&& 31)) + v10_586), .int ((q543 <<< (x2 &&& 31)) + v9_581)]) (rest := [.int q593.toInt32, .int v8_585]) ⟨hx, hb, hml, hown, hts⟩ (c_G_sample l dC dI cI cL ((q541 <<< (x2 &&& 31)) + v10_586) ((q543 <<< (x2 &&& 31)) + v9_581) hN_N hN_NA q595 hc) (cw_F_97 hts ⟨Nat.le_of_ble_eq_true rfl, Nat.le_of_ble_eq_true rfl⟩) ⟨zbR, va_recv hK hP (ci := 1) rfl hN_N, (zpR hP hK hZ)⟩ rfl rfl hl.1 rfl (lv_room (Nat.le_of_ble_eq_true rfl)) d_F_decodeBlock_162 ⟨Nat.zero_le _, Nat.zero_le _⟩)) (fun r596 hv => ?_)
              have hv := hv.symm
              subst hv
              refine lv_isub hx hb d_F_decodeBlock_165 ?_
              refine mm_F_284 hx hb (hml.trans hl.1.symm) hown hts (Nat.le_of_ble_eq_true rfl) (Nat.le_of_ble_eq_true rfl) (Nat.zero_le _) (Nat.zero_le _) d_F_decodeBlock_166 ?_
              refine mm_F_13 hx hb (hml.trans hl.1.symm) hown hts (Nat.le_of_ble_eq_true rfl) (Nat.le_of_ble_eq_true rfl) (Nat.zero_le _) (Nat.zero_le _) d_F_decodeBlock_169 ?_
              refine lv_istore (lv' := [(8, .int (if v8_585 < (if 0 ≤ (q593.toInt32 - q595) then (q593.toInt32 - q595) else 0 - (q593.toInt32 - q595)) then (if 0 ≤ (q593.toInt32 - q595) then (q593.toInt32 - q595) else 0 - (q593.toInt32 - q595)) else v8_585)), (12, .int q593.toInt32), (11, .int (q591 + q549)), (0, .ref aO), (1, .int x1), (2, .int x2), (3, .int (q541 <<< (x2 &&& 31))), (4, .int (q543 <<< (x2 &&& 31))), (5, .int (q545 <<< (x2 &&& 31))), (6, .int q547), (7, .int q549), (9, .int v9_581), (10, .int v10_586)]) hx hb d_F_decodeBlock_172 hl (by decide) rfl (fun ls hl => ?_)
              refine lv_aload_n hx hb d_F_decodeBlock_174 rfl (lv_at hl 3 rfl) ?_
              refine gf_F_31 (v := .ref aN) hx hb hts hown hK hP hN_O rfl d_F_decodeBlock_175 ?_
              refine lv_iload_n hx hb d_F_decodeBlock_178 rfl (lv_at hl 6 rfl) ?_
              refine lv_iload hx hb d_F_decodeBlock_179 (lv_at hl 12 rfl) ?_
              refine lv_iadd hx hb d_F_decodeBlock_181 ?_
              refine lv_iload hx hb d_F_decodeBlock_182 (lv_at hl 7 rfl) ?_
              refine lv_iload hx hb d_F_decodeBlock_184 (lv_at hl 11 rfl) ?_
              refine lv_iadd hx hb d_F_decodeBlock_186 ?_
              refine lv_iload hx hb d_F_decodeBlock_187 (lv_at hl 1 rfl) ?_
              obtain ⟨q597, hc, hf⟩ := z_b hf
              have hFc := z_free hD hS hA
              refine va_callv (va_runV (As := [.int ((q541 <<< (x2 &&& 31)) + v10_586), .int ((q543 <<< (x2 &&& 31)) + v9_581), .int q593.toInt32]) (rest := []) ⟨hx, hb, hml, hown, hts⟩ (c_G_set l dC dI cI cL _ ((q541 <<< (x2 &&& 31)) + v10_586) ((q543 <<< (x2 &&& 31)) + v9_581) q593.toInt32 hN_N hN_NA (by decide) q597 hc) (cw_F_100 hts ⟨Nat.le_of_ble_eq_true rfl, Nat.le_of_ble_eq_true rfl⟩) ⟨zbM, va_recv hK hP (ci := 1) rfl hN_N, (zpM hP hK hZ hD)⟩ rfl rfl hl.1 rfl (lv_room (Nat.le_of_ble_eq_true rfl)) d_F_decodeBlock_189 ⟨Nat.zero_le _, Nat.zero_le _⟩) hS (fun q _ h => hFc q h) hFc (fun ws t H locs ht hvm hu hB hz1 hk1 hS => ?_)
              obtain ⟨hN_NA, hfr⟩ := hu
              obtain ⟨hP, -, hD1⟩ := hB
              rw [ht] at hP
              have hD := hD1.weaken (fun _ _ _ h => hFc _ h)
              have hN_NA : zA ws 4 (aNA, .inl (cI, NA_n, .inl q597)) := hN_NA
              have hN_O := (hfr _ (by decide)).trans hN_O
              have hN_N := (hfr _ (by decide)).trans hN_N
              have hN_H := (hfr _ (by decide)).trans hN_H
              have hN_HA := (hfr _ (by decide)).trans hN_HA
              have hN_V := (hfr _ (by decide)).trans hN_V
              have hN_K := (hfr _ (by decide)).trans hN_K
              have hN_KA := (hfr _ (by decide)).trans hN_KA
              have hw := z_frC (by decide) hw hfr
              refine lv_iinc (v := (v10_586 + 1)) (lv' := [(10, .int (v10_586 + 1)), (8, .int (if v8_585 < (if 0 ≤ (q593.toInt32 - q595) then (q593.toInt32 - q595) else 0 - (q593.toInt32 - q595)) then (if 0 ≤ (q593.toInt32 - q595) then (q593.toInt32 - q595) else 0 - (q593.toInt32 - q595)) else v8_585)), (12, .int q593.toInt32), (11, .int (q591 + q549)), (0, .ref aO), (1, .int x1), (2, .int x2), (3, .int (q541 <<< (x2 &&& 31))), (4, .int (q543 <<< (x2 &&& 31))), (5, .int (q545 <<< (x2 &&& 31))), (6, .int q547), (7, .int q549), (9, .int v9_581)]) hx hb d_F_decodeBlock_192 hl (k := 12) rfl rfl (by decide) rfl (fun ls hl => ?_)
              refine lv_goto (tgt := 104) hx hb d_F_decodeBlock_195 (by decide) ?_
              exact ih (if v8_585 < (if 0 ≤ (q593.toInt32 - q595) then (q593.toInt32 - q595) else 0 - (q593.toInt32 - q595)) then (if 0 ≤ (q593.toInt32 - q595) then (q593.toInt32 - q595) else 0 - (q593.toInt32 - q595)) else v8_585) (v10_586 + 1) q597 _ _ _ ls _ hf (lv_sub hl [4, 5, 6, 7, 8, 9, 10, 11, 1, 12, 0] rfl) hP hD hS hN_O hN_N hN_NA hN_H hN_HA hN_V hN_K hN_KA hw kt0
        obtain ⟨q584, hc, hf⟩ := z_b hf
        refine lp588 _ FU v8_580 (0 : Int32) NA_f_582 _ _ _ ls q584 hc (lv_sub hl [1, 2, 3, 4, 5, 6, 7, 8, 9, 10, 0] rfl) hP hD hS hN_O hN_N hN_NA hN_H hN_HA hN_V hN_K hN_KA hw (fun ws H locs ls hl hP hD hS hN_O hN_N hN_NA hN_H hN_HA hN_V hN_K hN_KA hw => ?_)
        refine lv_iinc (v := (v9_581 + 1)) (lv' := [(9, .int (v9_581 + 1)), (0, .ref aO), (1, .int x1), (2, .int x2), (3, .int (q541 <<< (x2 &&& 31))), (4, .int (q543 <<< (x2 &&& 31))), (5, .int (q545 <<< (x2 &&& 31))), (6, .int q547), (7, .int q549), (8, .int q584.1), (10, .int q584.2.1)]) hx hb d_F_decodeBlock_198 hl (k := 9) rfl rfl (by decide) rfl (fun ls hl => ?_)
        refine lv_goto (tgt := 94) hx hb d_F_decodeBlock_201 (by decide) ?_
        exact ih q584.1 (v9_581 + 1) q584.2.2 _ _ _ ls _ hf (lv_sub hl [1, 2, 3, 4, 5, 6, 7, 8, 9, 0] rfl) hP hD hS hN_O hN_N hN_NA hN_H hN_HA hN_V hN_K hN_KA hw kt0
  obtain ⟨q579, hc, hf⟩ := z_b hf
  refine lp583 _ FU (0 : Int32) (0 : Int32) NA_f _ _ _ ls q579 hc (lv_sub hl [7, 8, 9, 6, 5, 4, 3, 2, 1, 0] rfl) hP hD hS hN_O hN_N hN_NA hN_H hN_HA hN_V hN_K hN_KA hw (fun ws H locs ls hl hP hD hS hN_O hN_N hN_NA hN_H hN_HA hN_V hN_K hN_KA hw => ?_)
  refine lv_iload hx hb d_F_decodeBlock_204 (lv_at hl 8 rfl) ?_
  obtain rfl := Option.some.inj hf
  exact W.iret hx hb hr (fun t ht hW => ⟨⟨_, ws, rfl, (by dsimp only; exact ⟨rfl, hN_NA, hN_V, hw⟩), by rw [ht]; exact hP, va_K.moved hW.alike hK, hD⟩, hS.F ht⟩) hS.2.2 d_F_decodeBlock_206
def f_F_decodeRound_15 (p1 : Int32) (N_side : Int32) (NA_n : Nat) (H_side : Int32) (HA_n : Nat) (HA_f : Nat → Int32) (K_count : Int32) (KA_n : Nat) (KA_f : Nat → Int32) : Nat → Int32 → Int32 → (Nat → Int32) → Int32 → Int32 → Int32 → Int32 → Int32 → Option (Int32 × Int32 × (Nat → Int32) × Int32 × Int32 × Int32 × Int32 × Int32)
  | 0, _, _, _, _, _, _, _, _ => none
  | n + 1, v2, v3, NA_f, V_left, V_top, V_start, V_stepAcross, V_stepDown => if K_count ≤ v3 then (some (v2, v3, NA_f, V_left, V_top, V_start, V_stepAcross, V_stepDown)) else ((f_F_decodeBlock v3 p1 N_side NA_n NA_f H_side HA_n HA_f V_left V_top V_start V_stepAcross V_stepDown K_count KA_n KA_f).bind (fun q599 => f_F_decodeRound_15 p1 N_side NA_n H_side HA_n HA_f K_count KA_n KA_f n (if v2 < q599.1 then q599.1 else v2) (v3 + 1) q599.2.1 q599.2.2.1 q599.2.2.2.1 q599.2.2.2.2.1 q599.2.2.2.2.2.1 q599.2.2.2.2.2.2))
def f_F_decodeRound (x1 : Int32) (N_side : Int32) (NA_n : Nat) (NA_f : Nat → Int32) (H_mostSide : Int32) (H_side : Int32) (HA_n : Nat) (HA_f : Nat → Int32) (V_left : Int32) (V_top : Int32) (V_start : Int32) (V_stepAcross : Int32) (V_stepDown : Int32) (K_count : Int32) (KA_n : Nat) (KA_f : Nat → Int32) : Option (Int32 × (Nat → Int32) × Int32 × (Nat → Int32) × Int32 × Int32 × Int32 × Int32 × Int32) := (f_G_becomeHalfOf H_mostSide H_side HA_n HA_f N_side NA_n NA_f).bind (fun q598 => (f_F_decodeRound_15 x1 N_side NA_n q598.1 HA_n q598.2 K_count KA_n KA_f FU (0 : Int32) (0 : Int32) NA_f V_left V_top V_start V_stepAcross V_stepDown).bind (fun q600 => some (q600.1, q600.2.2.1, q598.1, q598.2, q600.2.2.2.1, q600.2.2.2.2.1, q600.2.2.2.2.2.1, q600.2.2.2.2.2.2.1, q600.2.2.2.2.2.2.2)))
set_option maxHeartbeats 4000000 in
set_option maxRecDepth 100000 in
theorem c_F_decodeRound (l : Launch) (dC : Nat → ClassId) (dI : Nat → Nat → Nat) (cI cL : ClassId) {ws0 : va_W} (sz : Nat) {aO aP aN aH aV aS aK aT aC aI aNA aHA aKA : Nat} {O_side N_mostSide N_side H_mostSide H_side V_left V_top V_start V_stepAcross V_stepDown K_count : Int32} {NA_n HA_n KA_n : Nat} {NA_f HA_f KA_f : Nat → Int32} (x1 : Int32) (hN_O : zA ws0 0 (aO, .inr (0, [.int O_side, .ref aP, .ref aN, .ref aH, .ref aV, .ref aS, .ref aK, .ref aT, .ref aC, .ref aI]))) (hN_N : zA ws0 3 (aN, .inr (1, [.int N_mostSide, .ref aNA, .int N_side]))) (hN_NA : zA ws0 4 (aNA, .inl (cI, NA_n, .inl NA_f))) (hN_H : zA ws0 5 (aH, .inr (1, [.int H_mostSide, .ref aHA, .int H_side]))) (hN_HA : zA ws0 6 (aHA, .inl (cI, HA_n, .inl HA_f))) (hN_V : zA ws0 7 (aV, .inr (2, [.ref aH, .int V_left, .int V_top, .int V_start, .int V_stepAcross, .int V_stepDown]))) (hN_K : zA ws0 14 (aK, .inr (5, [.ref aKA, .int K_count]))) (hN_KA : zA ws0 15 (aKA, .inl (cI, KA_n, .inl KA_f))) (r : Int32 × (Nat → Int32) × Int32 × (Nat → Int32) × Int32 × Int32 × Int32 × Int32 × Int32) (hf : f_F_decodeRound x1 N_side NA_n NA_f H_mostSide H_side HA_n HA_f V_left V_top V_start V_stepAcross V_stepDown K_count KA_n KA_f = some r) : Met l y_F_decodeRound w_F_decodeRound rm_F_decodeRound (va_Pc [.ref aO, .int x1] (zM dC dI cI cL ws0 sz)) (va_Qi (fun (v : Int32) (ws' : va_W) => v = r.1 ∧ zA ws' 4 (aNA, .inl (cI, NA_n, .inl r.2.1)) ∧ zA ws' 5 (aH, .inr (1, [.int H_mostSide, .ref aHA, .int r.2.2.1])) ∧ zA ws' 6 (aHA, .inl (cI, HA_n, .inl r.2.2.2.1)) ∧ zA ws' 7 (aV, .inr (2, [.ref aH, .int r.2.2.2.2.1, .int r.2.2.2.2.2.1, .int r.2.2.2.2.2.2.1, .int r.2.2.2.2.2.2.2.1, .int r.2.2.2.2.2.2.2.2])) ∧ ∀ (j : Nat), j ∉ ([4, 5, 6, 7] : List Nat) → ws'[j]? = ws0[j]?) (zQ dC dI cI cL (va_A ws0 sz)) (va_A ws0 sz)) 0 0 (va_A ws0 sz) := by
  refine Met.ofW (cc := b_F_decodeRound) (maxL := 4) (ret := some .int) (by decide) rfl ?_
  intro p e s m args below meth c s₁ B hml hv
  obtain ⟨rfl, hsz, hP, hK, hZ, hD0⟩ := hv
  have hx := B.exec
  have hb := B.bytes
  have hr := B.returns
  have hlocks := B.notSynchronized
  have hts : ∀ w ∈ BIG, w.before ([.ref aO, .int x1] : List Value).toArray s = true := fun w h => atoms_spec (ws := w_F_decodeRound) B.pre w (List.mem_cons_of_mem _ h)
  have hown : s.vm.findClass "FractalMaps" = some m.cls := findClass_of_methodNamed B.named
  subst hsz
  have hD := hD0.self (sz := s.heap.size)
  generalize hAe : va_A ws0 s.heap.size = A at hD ⊢
  have hA : ∀ q : Nat, s.heap.size ≤ q → A q := fun q h => by rw [← hAe]; exact Or.inr h
  have hS : va_S A s.heap s.heap [] := va_S.rf
  have hw : ∀ (j : Nat), j ∉ ([4, 5, 6, 7] : List Nat) → ws0[j]? = ws0[j]? := fun _ _ => rfl
  have hl := lv_entry ([.ref aO, .int x1]) (n := 4) (Nat.le_of_ble_eq_true rfl)
  rw [lg_entry_eq]
  generalize (lg_sl ([.ref aO, .int x1]) ++ List.replicate (4 - (lg_sl ([.ref aO, .int x1])).length) Slot.unset).toArray = ls at hl ⊢
  have hl : lv_has ls 4 [(0, .ref aO), (1, .int x1)] := hl
  unfold f_F_decodeRound at hf
  refine lv_aload_n hx hb d_F_decodeRound_0 rfl (lv_at hl 0 rfl) ?_
  refine gf_F_34 (v := .ref aH) hx hb hts hown hK hP hN_O rfl d_F_decodeRound_1 ?_
  refine lv_aload_n hx hb d_F_decodeRound_4 rfl (lv_at hl 0 rfl) ?_
  refine gf_F_31 (v := .ref aN) hx hb hts hown hK hP hN_O rfl d_F_decodeRound_5 ?_
  obtain ⟨q598, hc, hf⟩ := z_b hf
  have hFc := z_free hD hS hA
  refine va_callv (va_runV (As := [.ref aN]) (rest := []) ⟨hx, hb, hml, hown, hts⟩ (c_G_becomeHalfOf l dC dI cI cL _ hN_H hN_HA hN_N hN_NA (by decide) (by decide) (by decide) (by decide) (by decide) q598 hc) (cw_F_199 hts ⟨Nat.le_of_ble_eq_true rfl, Nat.le_of_ble_eq_true rfl⟩) ⟨zbM, va_recv hK hP (ci := 1) rfl hN_H, (zpM hP hK hZ hD)⟩ rfl rfl hl.1 rfl (lv_room (Nat.le_of_ble_eq_true rfl)) d_F_decodeRound_8 ⟨Nat.zero_le _, Nat.zero_le _⟩) hS (fun q _ h => hFc q h) hFc (fun ws t H locs ht hvm hu hB hz1 hk1 hS => ?_)
  obtain ⟨hN_H, hN_HA, hfr⟩ := hu
  obtain ⟨hP, -, hD1⟩ := hB
  rw [ht] at hP
  have hD := hD1.weaken (fun _ _ _ h => hFc _ h)
  have hN_H : zA ws 5 (aH, .inr (1, [.int H_mostSide, .ref aHA, .int q598.1])) := hN_H
  have hN_HA : zA ws 6 (aHA, .inl (cI, HA_n, .inl q598.2)) := hN_HA
  have hN_O := (hfr _ (by decide)).trans hN_O
  have hN_N := (hfr _ (by decide)).trans hN_N
  have hN_NA := (hfr _ (by decide)).trans hN_NA
  have hN_V := (hfr _ (by decide)).trans hN_V
  have hN_K := (hfr _ (by decide)).trans hN_K
  have hN_KA := (hfr _ (by decide)).trans hN_KA
  have hw := z_frC (by decide) hw hfr
  refine lv_iconst (v := 0) hx hb d_F_decodeRound_11 (by decide) ?_
  refine lv_istore_n (lv' := [(2, .int (0 : Int32)), (0, .ref aO), (1, .int x1)]) hx hb d_F_decodeRound_12 rfl hl (by decide) rfl (fun ls hl => ?_)
  refine lv_iconst (v := 0) hx hb d_F_decodeRound_13 (by decide) ?_
  refine lv_istore_n (lv' := [(3, .int (0 : Int32)), (2, .int (0 : Int32)), (0, .ref aO), (1, .int x1)]) hx hb d_F_decodeRound_14 rfl hl (by decide) rfl (fun ls hl => ?_)
  have lp609 : ∀ (Qx : State → Prop) (n : Nat) (v2_601 : Int32) (v3_602 : Int32) (NA_f_603 : Nat → Int32) (V_left_604 : Int32) (V_top_605 : Int32) (V_start_606 : Int32) (V_stepAcross_607 : Int32) (V_stepDown_608 : Int32) (ws : va_W) (H : Heap) (locs : List Loc) (ls : Array Slot) (q : Int32 × Int32 × (Nat → Int32) × Int32 × Int32 × Int32 × Int32 × Int32) (hf : f_F_decodeRound_15 x1 N_side NA_n q598.1 HA_n q598.2 K_count KA_n KA_f n v2_601 v3_602 NA_f_603 V_left_604 V_top_605 V_start_606 V_stepAcross_607 V_stepDown_608 = some q) (hl : lv_has ls 4 [(0, .ref aO), (1, .int x1), (2, .int v2_601), (3, .int v3_602)]) (hP : va_P (dC, dI) classes ws H) (hD : va_D A ws) (hS : va_S A s.heap H locs) (hN_O : zA ws 0 (aO, .inr (0, [.int O_side, .ref aP, .ref aN, .ref aH, .ref aV, .ref aS, .ref aK, .ref aT, .ref aC, .ref aI]))) (hN_N : zA ws 3 (aN, .inr (1, [.int N_mostSide, .ref aNA, .int N_side]))) (hN_NA : zA ws 4 (aNA, .inl (cI, NA_n, .inl NA_f_603))) (hN_H : zA ws 5 (aH, .inr (1, [.int H_mostSide, .ref aHA, .int q598.1]))) (hN_HA : zA ws 6 (aHA, .inl (cI, HA_n, .inl q598.2))) (hN_V : zA ws 7 (aV, .inr (2, [.ref aH, .int V_left_604, .int V_top_605, .int V_start_606, .int V_stepAcross_607, .int V_stepDown_608]))) (hN_K : zA ws 14 (aK, .inr (5, [.ref aKA, .int K_count]))) (hN_KA : zA ws 15 (aKA, .inl (cI, KA_n, .inl KA_f))) (hw : ∀ (j : Nat), j ∉ ([4, 5, 6, 7] : List Nat) → ws[j]? = ws0[j]?) (kt0 : ∀ (ws : va_W) (H : Heap) (locs : List Loc) (ls : Array Slot), lv_has ls 4 [(0, .ref aO), (1, .int x1), (2, .int q.1), (3, .int q.2.1)] → (va_P (dC, dI) classes ws H) → (va_D A ws) → (va_S A s.heap H locs) → (zA ws 0 (aO, .inr (0, [.int O_side, .ref aP, .ref aN, .ref aH, .ref aV, .ref aS, .ref aK, .ref aT, .ref aC, .ref aI]))) → (zA ws 3 (aN, .inr (1, [.int N_mostSide, .ref aNA, .int N_side]))) → (zA ws 4 (aNA, .inl (cI, NA_n, .inl q.2.2.1))) → (zA ws 5 (aH, .inr (1, [.int H_mostSide, .ref aHA, .int q598.1]))) → (zA ws 6 (aHA, .inl (cI, HA_n, .inl q598.2))) → (zA ws 7 (aV, .inr (2, [.ref aH, .int q.2.2.2.1, .int q.2.2.2.2.1, .int q.2.2.2.2.2.1, .int q.2.2.2.2.2.2.1, .int q.2.2.2.2.2.2.2]))) → (zA ws 14 (aK, .inr (5, [.ref aKA, .int K_count]))) → (zA ws 15 (aKA, .inl (cI, KA_n, .inl KA_f))) → (∀ (j : Nat), j ∉ ([4, 5, 6, 7] : List Nat) → ws[j]? = ws0[j]?) → W p l e (headSpec w_F_decodeRound rm_F_decodeRound).room s m ([.ref aO, .int x1] : List Value).toArray below meth c H locs 0 0 Qx (F0 m 43 ls [])), W p l e (headSpec w_F_decodeRound rm_F_decodeRound).room s m ([.ref aO, .int x1] : List Value).toArray below meth c H locs 0 0 Qx (F0 m 15 ls []) := by
    intro Qx n
    induction n with
    | zero => intro v2_601 v3_602 NA_f_603 V_left_604 V_top_605 V_start_606 V_stepAcross_607 V_stepDown_608 ws H locs ls q hf; cases hf
    | succ n ih =>
      intro v2_601 v3_602 NA_f_603 V_left_604 V_top_605 V_start_606 V_stepAcross_607 V_stepDown_608 ws H locs ls q hf hl hP hD hS hN_O hN_N hN_NA hN_H hN_HA hN_V hN_K hN_KA hw kt0
      rw [f_F_decodeRound_15] at hf
      refine lv_iload_n hx hb d_F_decodeRound_15 rfl (lv_at hl 3 rfl) ?_
      refine lv_aload_n hx hb d_F_decodeRound_16 rfl (lv_at hl 0 rfl) ?_
      refine gf_F_60 (v := .ref aK) hx hb hts hown hK hP hN_O rfl d_F_decodeRound_17 ?_
      refine gf_F_136 (v := .int K_count) hx hb hts hown hK hZ hP hN_K rfl d_F_decodeRound_20 ?_
      refine lv_icmp_ge (tgt := 43) hx hb d_F_decodeRound_23 (by decide) (fun hc => ?_) (fun hc => ?_)
      · have hf := z_t hc hf
        obtain rfl := Option.some.inj hf
        exact kt0 _ _ _ ls (lv_sub hl [0, 1, 2, 3] rfl) hP hD hS hN_O hN_N hN_NA hN_H hN_HA hN_V hN_K hN_KA hw
      · have hf := z_f hc hf
        refine lv_iload_n hx hb d_F_decodeRound_26 rfl (lv_at hl 2 rfl) ?_
        refine lv_aload_n hx hb d_F_decodeRound_27 rfl (lv_at hl 0 rfl) ?_
        refine lv_iload_n hx hb d_F_decodeRound_28 rfl (lv_at hl 3 rfl) ?_
        refine lv_iload_n hx hb d_F_decodeRound_29 rfl (lv_at hl 1 rfl) ?_
        obtain ⟨q610, hc, hf⟩ := z_b hf
        have hFc := z_free hD hS hA
        refine va_calli (va_runV (As := [.int v3_602, .int x1]) (rest := [.int v2_601]) ⟨hx, hb, hml, hown, hts⟩ (c_F_decodeBlock l dC dI cI cL _ v3_602 x1 hN_O hN_N hN_NA hN_H hN_HA hN_V hN_K hN_KA q610 hc) (cw_F_278 hts ⟨Nat.le_of_ble_eq_true rfl, Nat.le_of_ble_eq_true rfl⟩) ⟨zbM, va_recv hK hP (ci := 0) rfl hN_O, (zpM hP hK hZ hD)⟩ rfl rfl hl.1 rfl (lv_room (Nat.le_of_ble_eq_true rfl)) d_F_decodeRound_30 ⟨Nat.zero_le _, Nat.zero_le _⟩) hS (fun q _ h => hFc q h) hFc (fun rv ws t H locs ht hvm hu hB hz1 hk1 hS => ?_)
        obtain ⟨hv, hN_NA, hN_V, hfr⟩ := hu
        subst hv
        obtain ⟨hP, -, hD1⟩ := hB
        rw [ht] at hP
        have hD := hD1.weaken (fun _ _ _ h => hFc _ h)
        have hN_NA : zA ws 4 (aNA, .inl (cI, NA_n, .inl q610.2.1)) := hN_NA
        have hN_V : zA ws 7 (aV, .inr (2, [.ref aH, .int q610.2.2.1, .int q610.2.2.2.1, .int q610.2.2.2.2.1, .int q610.2.2.2.2.2.1, .int q610.2.2.2.2.2.2])) := hN_V
        have hN_O := (hfr _ (by decide)).trans hN_O
        have hN_N := (hfr _ (by decide)).trans hN_N
        have hN_H := (hfr _ (by decide)).trans hN_H
        have hN_HA := (hfr _ (by decide)).trans hN_HA
        have hN_K := (hfr _ (by decide)).trans hN_K
        have hN_KA := (hfr _ (by decide)).trans hN_KA
        have hw := z_frC (by decide) hw hfr
        refine mm_F_13 hx hb (hml.trans hl.1.symm) hown hts (Nat.le_of_ble_eq_true rfl) (Nat.le_of_ble_eq_true rfl) (Nat.zero_le _) (Nat.zero_le _) d_F_decodeRound_33 ?_
        refine lv_istore_n (lv' := [(2, .int (if v2_601 < q610.1 then q610.1 else v2_601)), (0, .ref aO), (1, .int x1), (3, .int v3_602)]) hx hb d_F_decodeRound_36 rfl hl (by decide) rfl (fun ls hl => ?_)
        refine lv_iinc (v := (v3_602 + 1)) (lv' := [(3, .int (v3_602 + 1)), (2, .int (if v2_601 < q610.1 then q610.1 else v2_601)), (0, .ref aO), (1, .int x1)]) hx hb d_F_decodeRound_37 hl (k := 3) rfl rfl (by decide) rfl (fun ls hl => ?_)
        refine lv_goto (tgt := 15) hx hb d_F_decodeRound_40 (by decide) ?_
        exact ih (if v2_601 < q610.1 then q610.1 else v2_601) (v3_602 + 1) q610.2.1 q610.2.2.1 q610.2.2.2.1 q610.2.2.2.2.1 q610.2.2.2.2.2.1 q610.2.2.2.2.2.2 _ _ _ ls _ hf (lv_sub hl [2, 3, 1, 0] rfl) hP hD hS hN_O hN_N hN_NA hN_H hN_HA hN_V hN_K hN_KA hw kt0
  obtain ⟨q600, hc, hf⟩ := z_b hf
  refine lp609 _ FU (0 : Int32) (0 : Int32) NA_f V_left V_top V_start V_stepAcross V_stepDown _ _ _ ls q600 hc (lv_sub hl [2, 3, 1, 0] rfl) hP hD hS hN_O hN_N hN_NA hN_H hN_HA hN_V hN_K hN_KA hw (fun ws H locs ls hl hP hD hS hN_O hN_N hN_NA hN_H hN_HA hN_V hN_K hN_KA hw => ?_)
  refine lv_iload_n hx hb d_F_decodeRound_43 rfl (lv_at hl 2 rfl) ?_
  obtain rfl := Option.some.inj hf
  exact W.iret hx hb hr (fun t ht hW => ⟨⟨_, ws, rfl, (by dsimp only; exact ⟨rfl, hN_NA, hN_H, hN_HA, hN_V, hw⟩), by rw [ht]; exact hP, va_K.moved hW.alike hK, hD⟩, hS.F ht⟩) hS.2.2 d_F_decodeRound_44
