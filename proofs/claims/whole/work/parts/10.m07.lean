def f_S_tryTurn_31 (p1 : Int32) (p2 : Int32) (p3 : Int32) (S_count : Int32) (W_n : Nat) (W_f : Nat → Int32) (D_n : Nat) (D_f : Nat → Int32) : Nat → Int32 → Int32 → Int32 → Option (Int32 × Int32 × Int32)
  | 0, _, _, _ => none
  | n + 1, v4, v5, v6 => if S_count ≤ v6 then (some (v4, v5, v6)) else (if v6 < 0 ∨ W_n ≤ v6.toNatClampNeg then none else (if v6 < 0 ∨ D_n ≤ v6.toNatClampNeg then none else ((f_F_dimmed (D_f v6.toNatClampNeg) p3).bind (fun q320 => f_S_tryTurn_31 p1 p2 p3 S_count W_n W_f D_n D_f n (v4 + ((W_f v6.toNatClampNeg) - q320)) (v5 + (((W_f v6.toNatClampNeg) - q320) * ((W_f v6.toNatClampNeg) - q320))) (v6 + 1)))))
def f_S_tryTurn (x1 : Int32) (x2 : Int32) (S_size : Int32) (S_count : Int32) (S_wantedSum : Int32) (S_foundSum : Int32) (S_foundSquares : Int32) (H_side : Int32) (HA_n : Nat) (HA_f : Nat → Int32) (V_left : Int32) (V_top : Int32) (V_start : Int32) (V_stepAcross : Int32) (V_stepDown : Int32) (W_n : Nat) (W_f : Nat → Int32) (D_n : Nat) (D_f : Nat → Int32) (E_domain : Int32) (E_turn : Int32) (E_contrast : Int32) (E_offset : Int32) (E_error : Int32) : Option (Int32 × Int32 × Int32 × Int32 × Int32 × (Nat → Int32) × Int32 × Int32 × Int32 × Int32 × Int32) := (f_V_aim S_size x1 x2 V_left V_top V_start H_side).bind (fun q316 => (f_S_takeDomain S_size HA_n HA_f q316.2.2.1 q316.2.2.2.1 q316.2.2.2.2 D_n D_f).bind (fun q317 => (f_S_contrastWanted S_count S_wantedSum S_foundSum S_foundSquares W_n W_f D_n q317).bind (fun q318 => (f_S_tryTurn_31 x1 x2 q318 S_count W_n W_f D_n q317 FU (0 : Int32) (0 : Int32) (0 : Int32)).bind (fun q322 => (f_F_nearest q322.1.toInt64 S_count.toInt64).bind (fun q329 => if E_error = ((-1) : Int32) then ((f_T_become x1 x2 q318 q329.toInt32 ((q322.2.1 - (((2 : Int32) * q329.toInt32) * q322.1)) + ((S_count * q329.toInt32) * q329.toInt32))).bind (fun q331 => some (q316.1, q316.2.1, q316.2.2.1, q316.2.2.2.1, q316.2.2.2.2, q317, q331.1, q331.2.1, q331.2.2.1, q331.2.2.2.1, q331.2.2.2.2))) else (if E_error ≤ ((q322.2.1 - (((2 : Int32) * q329.toInt32) * q322.1)) + ((S_count * q329.toInt32) * q329.toInt32)) then (some (q316.1, q316.2.1, q316.2.2.1, q316.2.2.2.1, q316.2.2.2.2, q317, E_domain, E_turn, E_contrast, E_offset, E_error)) else ((f_T_become x1 x2 q318 q329.toInt32 ((q322.2.1 - (((2 : Int32) * q329.toInt32) * q322.1)) + ((S_count * q329.toInt32) * q329.toInt32))).bind (fun q332 => some (q316.1, q316.2.1, q316.2.2.1, q316.2.2.2.1, q316.2.2.2.2, q317, q332.1, q332.2.1, q332.2.2.1, q332.2.2.2.1, q332.2.2.2.2)))))))))
set_option maxHeartbeats 4000000 in
set_option maxRecDepth 100000 in
theorem c_S_tryTurn (l : Launch) (dC : Nat → ClassId) (dI : Nat → Nat → Nat) (cI cL : ClassId) {ws0 : va_W} (sz : Nat) {aS aP aH aV aW aD aQ aR aE aHA : Nat} {S_tried S_size S_count S_wantedSum S_foundSum S_foundSquares H_mostSide H_side V_left V_top V_start V_stepAcross V_stepDown E_domain E_turn E_contrast E_offset E_error : Int32} {HA_n W_n D_n : Nat} {HA_f W_f D_f : Nat → Int32} (x1 : Int32) (x2 : Int32) (hN_S : zA ws0 8 (aS, .inr (3, [.ref aP, .ref aH, .ref aV, .ref aW, .ref aD, .ref aQ, .ref aR, .ref aE, .int S_tried, .int S_size, .int S_count, .int S_wantedSum, .int S_foundSum, .int S_foundSquares]))) (hN_H : zA ws0 5 (aH, .inr (1, [.int H_mostSide, .ref aHA, .int H_side]))) (hN_HA : zA ws0 6 (aHA, .inl (cI, HA_n, .inl HA_f))) (hN_V : zA ws0 7 (aV, .inr (2, [.ref aH, .int V_left, .int V_top, .int V_start, .int V_stepAcross, .int V_stepDown]))) (hN_W : zA ws0 9 (aW, .inl (cI, W_n, .inl W_f))) (hN_D : zA ws0 10 (aD, .inl (cI, D_n, .inl D_f))) (hN_E : zA ws0 13 (aE, .inr (4, [.int E_domain, .int E_turn, .int E_contrast, .int E_offset, .int E_error]))) (r : Int32 × Int32 × Int32 × Int32 × Int32 × (Nat → Int32) × Int32 × Int32 × Int32 × Int32 × Int32) (hf : f_S_tryTurn x1 x2 S_size S_count S_wantedSum S_foundSum S_foundSquares H_side HA_n HA_f V_left V_top V_start V_stepAcross V_stepDown W_n W_f D_n D_f E_domain E_turn E_contrast E_offset E_error = some r) : Met l y_S_tryTurn w_S_tryTurn rm_S_tryTurn (va_Pc [.ref aS, .int x1, .int x2] (zM dC dI cI cL ws0 sz)) (va_Qv (fun ws' : va_W => zA ws' 7 (aV, .inr (2, [.ref aH, .int r.1, .int r.2.1, .int r.2.2.1, .int r.2.2.2.1, .int r.2.2.2.2.1])) ∧ zA ws' 10 (aD, .inl (cI, D_n, .inl r.2.2.2.2.2.1)) ∧ zA ws' 13 (aE, .inr (4, [.int r.2.2.2.2.2.2.1, .int r.2.2.2.2.2.2.2.1, .int r.2.2.2.2.2.2.2.2.1, .int r.2.2.2.2.2.2.2.2.2.1, .int r.2.2.2.2.2.2.2.2.2.2])) ∧ ∀ (j : Nat), j ∉ ([7, 10, 13] : List Nat) → ws'[j]? = ws0[j]?) (zQ dC dI cI cL (va_A ws0 sz)) (va_A ws0 sz)) 0 0 (va_A ws0 sz) := by
  refine Met.ofW (cc := b_S_tryTurn) (maxL := 8) (ret := none) (by decide) rfl ?_
  intro p e s m args below meth c s₁ B hml hv
  obtain ⟨rfl, hsz, hP, hK, hZ, hD0⟩ := hv
  have hx := B.exec
  have hb := B.bytes
  have hr := B.returns
  have hlocks := B.notSynchronized
  have hts : ∀ w ∈ BIG, w.before ([.ref aS, .int x1, .int x2] : List Value).toArray s = true := fun w h => atoms_spec (ws := w_S_tryTurn) B.pre w (List.mem_cons_of_mem _ h)
  have hown : s.vm.findClass "FractalMaps$Search" = some m.cls := findClass_of_methodNamed B.named
  subst hsz
  have hD := hD0.self (sz := s.heap.size)
  generalize hAe : va_A ws0 s.heap.size = A at hD ⊢
  have hA : ∀ q : Nat, s.heap.size ≤ q → A q := fun q h => by rw [← hAe]; exact Or.inr h
  have hS : va_S A s.heap s.heap [] := va_S.rf
  have hw : ∀ (j : Nat), j ∉ ([7, 10, 13] : List Nat) → ws0[j]? = ws0[j]? := fun _ _ => rfl
  have hl := lv_entry ([.ref aS, .int x1, .int x2]) (n := 8) (Nat.le_of_ble_eq_true rfl)
  rw [lg_entry_eq]
  generalize (lg_sl ([.ref aS, .int x1, .int x2]) ++ List.replicate (8 - (lg_sl ([.ref aS, .int x1, .int x2])).length) Slot.unset).toArray = ls at hl ⊢
  have hl : lv_has ls 8 [(0, .ref aS), (1, .int x1), (2, .int x2)] := hl
  unfold f_S_tryTurn at hf
  refine lv_aload_n hx hb d_S_tryTurn_0 rfl (lv_at hl 0 rfl) ?_
  refine gf_S_18 (v := .ref aV) hx hb hts hown hK hP hN_S rfl d_S_tryTurn_1 ?_
  refine lv_aload_n hx hb d_S_tryTurn_4 rfl (lv_at hl 0 rfl) ?_
  refine gf_S_78 (v := .int S_size) hx hb hts hown hK hP hN_S rfl d_S_tryTurn_5 ?_
  refine lv_iload_n hx hb d_S_tryTurn_8 rfl (lv_at hl 1 rfl) ?_
  refine lv_iload_n hx hb d_S_tryTurn_9 rfl (lv_at hl 2 rfl) ?_
  obtain ⟨q316, hc, hf⟩ := z_b hf
  have hFc := z_free hD hS hA
  refine va_callv (va_runV (As := [.int S_size, .int x1, .int x2]) (rest := []) ⟨hx, hb, hml, hown, hts⟩ (c_V_aim l dC dI cI cL _ S_size x1 x2 hN_V hN_H q316 hc) (cw_S_107 hts ⟨Nat.le_of_ble_eq_true rfl, Nat.le_of_ble_eq_true rfl⟩) ⟨zbM, va_recv hK hP (ci := 2) rfl hN_V, (zpM hP hK hZ hD)⟩ rfl rfl hl.1 rfl (lv_room (Nat.le_of_ble_eq_true rfl)) d_S_tryTurn_10 ⟨Nat.zero_le _, Nat.zero_le _⟩) hS (fun q _ h => hFc q h) hFc (fun ws t H locs ht hvm hu hB hz1 hk1 hS => ?_)
  obtain ⟨hN_V, hfr⟩ := hu
  obtain ⟨hP, -, hD1⟩ := hB
  rw [ht] at hP
  have hD := hD1.weaken (fun _ _ _ h => hFc _ h)
  have hN_V : zA ws 7 (aV, .inr (2, [.ref aH, .int q316.1, .int q316.2.1, .int q316.2.2.1, .int q316.2.2.2.1, .int q316.2.2.2.2])) := hN_V
  have hN_S := (hfr _ (by decide)).trans hN_S
  have hN_H := (hfr _ (by decide)).trans hN_H
  have hN_HA := (hfr _ (by decide)).trans hN_HA
  have hN_W := (hfr _ (by decide)).trans hN_W
  have hN_D := (hfr _ (by decide)).trans hN_D
  have hN_E := (hfr _ (by decide)).trans hN_E
  have hw := z_frC (by decide) hw hfr
  refine lv_aload_n hx hb d_S_tryTurn_13 rfl (lv_at hl 0 rfl) ?_
  obtain ⟨q317, hc, hf⟩ := z_b hf
  have hFc := z_free hD hS hA
  refine va_callv (va_runV (As := []) (rest := []) ⟨hx, hb, hml, hown, hts⟩ (c_S_takeDomain l dC dI cI cL _ hN_S hN_H hN_HA hN_V hN_D q317 hc) (cw_S_132 hts ⟨Nat.le_of_ble_eq_true rfl, Nat.le_of_ble_eq_true rfl⟩) ⟨zbM, va_recv hK hP (ci := 3) rfl hN_S, (zpM hP hK hZ hD)⟩ rfl rfl hl.1 rfl (lv_room (Nat.le_of_ble_eq_true rfl)) d_S_tryTurn_14 ⟨Nat.zero_le _, Nat.zero_le _⟩) hS (fun q _ h => hFc q h) hFc (fun ws t H locs ht hvm hu hB hz1 hk1 hS => ?_)
  obtain ⟨hN_D, hfr⟩ := hu
  obtain ⟨hP, -, hD1⟩ := hB
  rw [ht] at hP
  have hD := hD1.weaken (fun _ _ _ h => hFc _ h)
  have hN_D : zA ws 10 (aD, .inl (cI, D_n, .inl q317)) := hN_D
  have hN_S := (hfr _ (by decide)).trans hN_S
  have hN_H := (hfr _ (by decide)).trans hN_H
  have hN_HA := (hfr _ (by decide)).trans hN_HA
  have hN_V := (hfr _ (by decide)).trans hN_V
  have hN_W := (hfr _ (by decide)).trans hN_W
  have hN_E := (hfr _ (by decide)).trans hN_E
  have hw := z_frC (by decide) hw hfr
  refine lv_aload_n hx hb d_S_tryTurn_17 rfl (lv_at hl 0 rfl) ?_
  obtain ⟨q318, hc, hf⟩ := z_b hf
  refine vp_callSi (z_cr (va_runV (As := []) (rest := []) ⟨hx, hb, hml, hown, hts⟩ (c_S_contrastWanted l dC dI cI cL hN_S hN_W hN_D q318 hc) (cw_S_135 hts ⟨Nat.le_of_ble_eq_true rfl, Nat.le_of_ble_eq_true rfl⟩) ⟨zbR, va_recv hK hP (ci := 3) rfl hN_S, (zpR hP hK hZ)⟩ rfl rfl hl.1 rfl (lv_room (Nat.le_of_ble_eq_true rfl)) d_S_tryTurn_18 ⟨Nat.zero_le _, Nat.zero_le _⟩)) (fun r319 hv => ?_)
  have hv := hv.symm
  subst hv
  refine lv_istore_n (lv' := [(3, .int q318), (0, .ref aS), (1, .int x1), (2, .int x2)]) hx hb d_S_tryTurn_21 rfl hl (by decide) rfl (fun ls hl => ?_)
  refine lv_iconst (v := 0) hx hb d_S_tryTurn_22 (by decide) ?_
  refine lv_istore (lv' := [(4, .int (0 : Int32)), (3, .int q318), (0, .ref aS), (1, .int x1), (2, .int x2)]) hx hb d_S_tryTurn_23 hl (by decide) rfl (fun ls hl => ?_)
  refine lv_iconst (v := 0) hx hb d_S_tryTurn_25 (by decide) ?_
  refine lv_istore (lv' := [(5, .int (0 : Int32)), (4, .int (0 : Int32)), (3, .int q318), (0, .ref aS), (1, .int x1), (2, .int x2)]) hx hb d_S_tryTurn_26 hl (by decide) rfl (fun ls hl => ?_)
  refine lv_iconst (v := 0) hx hb d_S_tryTurn_28 (by decide) ?_
  refine lv_istore (lv' := [(6, .int (0 : Int32)), (5, .int (0 : Int32)), (4, .int (0 : Int32)), (3, .int q318), (0, .ref aS), (1, .int x1), (2, .int x2)]) hx hb d_S_tryTurn_29 hl (by decide) rfl (fun ls hl => ?_)
  have lp326 : ∀ (Qx : State → Prop) (n : Nat) (v4_323 : Int32) (v5_324 : Int32) (v6_325 : Int32) (ls : Array Slot) (q : Int32 × Int32 × Int32) (hf : f_S_tryTurn_31 x1 x2 q318 S_count W_n W_f D_n q317 n v4_323 v5_324 v6_325 = some q) (hl : lv_has ls 8 [(0, .ref aS), (1, .int x1), (2, .int x2), (3, .int q318), (4, .int v4_323), (5, .int v5_324), (6, .int v6_325)]) (kt0 : ∀ (ls : Array Slot), lv_has ls 8 [(0, .ref aS), (1, .int x1), (2, .int x2), (3, .int q318), (4, .int q.1), (5, .int q.2.1), (6, .int q.2.2)] → W p l e (headSpec w_S_tryTurn rm_S_tryTurn).room s m ([.ref aS, .int x1, .int x2] : List Value).toArray below meth c H locs 0 0 Qx (F0 m 84 ls [])), W p l e (headSpec w_S_tryTurn rm_S_tryTurn).room s m ([.ref aS, .int x1, .int x2] : List Value).toArray below meth c H locs 0 0 Qx (F0 m 31 ls []) := by
    intro Qx n
    induction n with
    | zero => intro v4_323 v5_324 v6_325 ls q hf; cases hf
    | succ n ih =>
      intro v4_323 v5_324 v6_325 ls q hf hl kt0
      rw [f_S_tryTurn_31] at hf
      refine lv_iload hx hb d_S_tryTurn_31 (lv_at hl 6 rfl) ?_
      refine lv_aload_n hx hb d_S_tryTurn_33 rfl (lv_at hl 0 rfl) ?_
      refine gf_S_86 (v := .int S_count) hx hb hts hown hK hP hN_S rfl d_S_tryTurn_34 ?_
      refine lv_icmp_ge (tgt := 84) hx hb d_S_tryTurn_37 (by decide) (fun hc => ?_) (fun hc => ?_)
      · have hf := z_t hc hf
        obtain rfl := Option.some.inj hf
        exact kt0 ls (lv_sub hl [0, 1, 2, 3, 4, 5, 6] rfl)
      · have hf := z_f hc hf
        refine lv_aload_n hx hb d_S_tryTurn_40 rfl (lv_at hl 0 rfl) ?_
        refine gf_S_28 (v := .ref aW) hx hb hts hown hK hP hN_S rfl d_S_tryTurn_41 ?_
        refine lv_iload hx hb d_S_tryTurn_44 (lv_at hl 6 rfl) ?_
        obtain ⟨hin, hf⟩ := z_no hf
        refine va_iald hx hb hK hP _ 0 hN_W rfl hin d_S_tryTurn_46 ?_
        refine lv_aload_n hx hb d_S_tryTurn_47 rfl (lv_at hl 0 rfl) ?_
        refine gf_S_31 (v := .ref aD) hx hb hts hown hK hP hN_S rfl d_S_tryTurn_48 ?_
        refine lv_iload hx hb d_S_tryTurn_51 (lv_at hl 6 rfl) ?_
        obtain ⟨hin, hf⟩ := z_no hf
        refine va_iald hx hb hK hP _ 0 hN_D rfl hin d_S_tryTurn_53 ?_
        refine lv_iload_n hx hb d_S_tryTurn_54 rfl (lv_at hl 3 rfl) ?_
        obtain ⟨q327, hc, hf⟩ := z_b hf
        refine vp_callSi (z_cr (va_runSN (As := [.int (q317 v6_325.toNatClampNeg), .int q318]) (rest := [.int (W_f v6_325.toNatClampNeg)]) ⟨hx, hb, hml, hown, hts⟩ (c_F_dimmed l (q317 v6_325.toNatClampNeg) q318 q327 hc) (cw_S_139 hts hZ ⟨Nat.le_of_ble_eq_true rfl, Nat.le_of_ble_eq_true rfl⟩) ⟨zb0, zp0⟩ rfl rfl hl.1 rfl (lv_room (Nat.le_of_ble_eq_true rfl)) d_S_tryTurn_55 ⟨Nat.zero_le _, Nat.zero_le _⟩)) (fun r328 hv => ?_)
        have hv := hv.symm
        subst hv
        refine lv_isub hx hb d_S_tryTurn_58 ?_
        refine lv_istore (lv' := [(7, .int ((W_f v6_325.toNatClampNeg) - q327)), (0, .ref aS), (1, .int x1), (2, .int x2), (3, .int q318), (4, .int v4_323), (5, .int v5_324), (6, .int v6_325)]) hx hb d_S_tryTurn_59 hl (by decide) rfl (fun ls hl => ?_)
        refine lv_iload hx hb d_S_tryTurn_61 (lv_at hl 5 rfl) ?_
        refine lv_iload hx hb d_S_tryTurn_63 (lv_at hl 0 rfl) ?_
        refine lv_iadd hx hb d_S_tryTurn_65 ?_
        refine lv_istore (lv' := [(4, .int (v4_323 + ((W_f v6_325.toNatClampNeg) - q327))), (7, .int ((W_f v6_325.toNatClampNeg) - q327)), (0, .ref aS), (1, .int x1), (2, .int x2), (3, .int q318), (5, .int v5_324), (6, .int v6_325)]) hx hb d_S_tryTurn_66 hl (by decide) rfl (fun ls hl => ?_)
        refine lv_iload hx hb d_S_tryTurn_68 (lv_at hl 6 rfl) ?_
        refine lv_iload hx hb d_S_tryTurn_70 (lv_at hl 1 rfl) ?_
        refine lv_iload hx hb d_S_tryTurn_72 (lv_at hl 1 rfl) ?_
        refine lv_imul hx hb d_S_tryTurn_74 ?_
        refine lv_iadd hx hb d_S_tryTurn_75 ?_
        refine lv_istore (lv' := [(5, .int (v5_324 + (((W_f v6_325.toNatClampNeg) - q327) * ((W_f v6_325.toNatClampNeg) - q327)))), (4, .int (v4_323 + ((W_f v6_325.toNatClampNeg) - q327))), (7, .int ((W_f v6_325.toNatClampNeg) - q327)), (0, .ref aS), (1, .int x1), (2, .int x2), (3, .int q318), (6, .int v6_325)]) hx hb d_S_tryTurn_76 hl (by decide) rfl (fun ls hl => ?_)
        refine lv_iinc (v := (v6_325 + 1)) (lv' := [(6, .int (v6_325 + 1)), (5, .int (v5_324 + (((W_f v6_325.toNatClampNeg) - q327) * ((W_f v6_325.toNatClampNeg) - q327)))), (4, .int (v4_323 + ((W_f v6_325.toNatClampNeg) - q327))), (7, .int ((W_f v6_325.toNatClampNeg) - q327)), (0, .ref aS), (1, .int x1), (2, .int x2), (3, .int q318)]) hx hb d_S_tryTurn_78 hl (k := 7) rfl rfl (by decide) rfl (fun ls hl => ?_)
        refine lv_goto (tgt := 31) hx hb d_S_tryTurn_81 (by decide) ?_
        exact ih (v4_323 + ((W_f v6_325.toNatClampNeg) - q327)) (v5_324 + (((W_f v6_325.toNatClampNeg) - q327) * ((W_f v6_325.toNatClampNeg) - q327))) (v6_325 + 1) ls _ hf (lv_sub hl [4, 5, 6, 7, 2, 1, 0] rfl) kt0
  obtain ⟨q322, hc, hf⟩ := z_b hf
  refine lp326 _ FU (0 : Int32) (0 : Int32) (0 : Int32) ls q322 hc (lv_sub hl [4, 5, 6, 3, 2, 1, 0] rfl) (fun ls hl => ?_)
  refine lv_iload hx hb d_S_tryTurn_84 (lv_at hl 4 rfl) ?_
  refine lv_i2l hx hb d_S_tryTurn_86 rfl ?_
  refine lv_aload_n hx hb d_S_tryTurn_87 rfl (lv_at hl 0 rfl) ?_
  refine gf_S_86 (v := .int S_count) hx hb hts hown hK hP hN_S rfl d_S_tryTurn_88 ?_
  refine lv_i2l hx hb d_S_tryTurn_91 rfl ?_
  obtain ⟨q329, hc, hf⟩ := z_b hf
  refine vp_callSl (z_cr (va_runSN (As := [.long q322.1.toInt64, .long S_count.toInt64]) (rest := []) ⟨hx, hb, hml, hown, hts⟩ (c_F_nearest l q322.1.toInt64 S_count.toInt64 q329 hc) (cw_S_142 hts hZ ⟨Nat.le_of_ble_eq_true rfl, Nat.le_of_ble_eq_true rfl⟩) ⟨zb0, zp0⟩ rfl rfl hl.1 rfl (lv_room (Nat.le_of_ble_eq_true rfl)) d_S_tryTurn_92 ⟨Nat.zero_le _, Nat.zero_le _⟩)) (fun r330 hv => ?_)
  have hv := hv.symm
  subst hv
  refine lv_l2i hx hb d_S_tryTurn_95 rfl ?_
  refine lv_istore (lv' := [(6, .int q329.toInt32), (0, .ref aS), (1, .int x1), (2, .int x2), (3, .int q318), (4, .int q322.1), (5, .int q322.2.1)]) hx hb d_S_tryTurn_96 hl (by decide) rfl (fun ls hl => ?_)
  refine lv_iload hx hb d_S_tryTurn_98 (lv_at hl 6 rfl) ?_
  refine lv_iconst (v := 2) hx hb d_S_tryTurn_100 (by decide) ?_
  refine lv_iload hx hb d_S_tryTurn_101 (lv_at hl 0 rfl) ?_
  refine lv_imul hx hb d_S_tryTurn_103 ?_
  refine lv_iload hx hb d_S_tryTurn_104 (lv_at hl 5 rfl) ?_
  refine lv_imul hx hb d_S_tryTurn_106 ?_
  refine lv_isub hx hb d_S_tryTurn_107 ?_
  refine lv_aload_n hx hb d_S_tryTurn_108 rfl (lv_at hl 1 rfl) ?_
  refine gf_S_86 (v := .int S_count) hx hb hts hown hK hP hN_S rfl d_S_tryTurn_109 ?_
  refine lv_iload hx hb d_S_tryTurn_112 (lv_at hl 0 rfl) ?_
  refine lv_imul hx hb d_S_tryTurn_114 ?_
  refine lv_iload hx hb d_S_tryTurn_115 (lv_at hl 0 rfl) ?_
  refine lv_imul hx hb d_S_tryTurn_117 ?_
  refine lv_iadd hx hb d_S_tryTurn_118 ?_
  refine lv_istore (lv' := [(7, .int ((q322.2.1 - (((2 : Int32) * q329.toInt32) * q322.1)) + ((S_count * q329.toInt32) * q329.toInt32))), (6, .int q329.toInt32), (0, .ref aS), (1, .int x1), (2, .int x2), (3, .int q318), (4, .int q322.1), (5, .int q322.2.1)]) hx hb d_S_tryTurn_119 hl (by decide) rfl (fun ls hl => ?_)
  refine lv_aload_n hx hb d_S_tryTurn_121 rfl (lv_at hl 2 rfl) ?_
  refine gf_S_43 (v := .ref aE) hx hb hts hown hK hP hN_S rfl d_S_tryTurn_122 ?_
  refine gf_S_146 (v := .int E_error) hx hb hts hown hK hZ hP hN_E rfl d_S_tryTurn_125 ?_
  refine lv_iconst (v := (-1)) hx hb d_S_tryTurn_128 (by decide) ?_
  refine lv_icmp_eq (tgt := 144) hx hb d_S_tryTurn_129 (by decide) (fun hc => ?_) (fun hc => ?_)
  · have hf := z_t hc hf
    refine lv_aload_n hx hb d_S_tryTurn_144 rfl (lv_at hl 2 rfl) ?_
    refine gf_S_43 (v := .ref aE) hx hb hts hown hK hP hN_S rfl d_S_tryTurn_145 ?_
    refine lv_iload_n hx hb d_S_tryTurn_148 rfl (lv_at hl 3 rfl) ?_
    refine lv_iload_n hx hb d_S_tryTurn_149 rfl (lv_at hl 4 rfl) ?_
    refine lv_iload_n hx hb d_S_tryTurn_150 rfl (lv_at hl 5 rfl) ?_
    refine lv_iload hx hb d_S_tryTurn_151 (lv_at hl 1 rfl) ?_
    refine lv_iload hx hb d_S_tryTurn_153 (lv_at hl 0 rfl) ?_
    obtain ⟨q331, hc, hf⟩ := z_b hf
    have hFc := z_free hD hS hA
    refine va_callv (va_runV (As := [.int x1, .int x2, .int q318, .int q329.toInt32, .int ((q322.2.1 - (((2 : Int32) * q329.toInt32) * q322.1)) + ((S_count * q329.toInt32) * q329.toInt32))]) (rest := []) ⟨hx, hb, hml, hown, hts⟩ (c_T_become l dC dI cI cL _ x1 x2 q318 q329.toInt32 ((q322.2.1 - (((2 : Int32) * q329.toInt32) * q322.1)) + ((S_count * q329.toInt32) * q329.toInt32)) hN_E q331 hc) (cw_S_59 hts ⟨Nat.le_of_ble_eq_true rfl, Nat.le_of_ble_eq_true rfl⟩) ⟨zbM, va_recv hK hP (ci := 4) rfl hN_E, (zpM hP hK hZ hD)⟩ rfl rfl hl.1 rfl (lv_room (Nat.le_of_ble_eq_true rfl)) d_S_tryTurn_155 ⟨Nat.zero_le _, Nat.zero_le _⟩) hS (fun q _ h => hFc q h) hFc (fun ws t H locs ht hvm hu hB hz1 hk1 hS => ?_)
    obtain ⟨hN_E, hfr⟩ := hu
    obtain ⟨hP, -, hD1⟩ := hB
    rw [ht] at hP
    have hD := hD1.weaken (fun _ _ _ h => hFc _ h)
    have hN_E : zA ws 13 (aE, .inr (4, [.int q331.1, .int q331.2.1, .int q331.2.2.1, .int q331.2.2.2.1, .int q331.2.2.2.2])) := hN_E
    have hN_S := (hfr _ (by decide)).trans hN_S
    have hN_H := (hfr _ (by decide)).trans hN_H
    have hN_HA := (hfr _ (by decide)).trans hN_HA
    have hN_V := (hfr _ (by decide)).trans hN_V
    have hN_W := (hfr _ (by decide)).trans hN_W
    have hN_D := (hfr _ (by decide)).trans hN_D
    have hw := z_frC (by decide) hw hfr
    obtain rfl := Option.some.inj hf
    exact W.vret hx hb hr (fun t ht hW => ⟨⟨ws, rfl, (by dsimp only; exact ⟨hN_V, hN_D, hN_E, hw⟩), by rw [ht]; exact hP, va_K.moved hW.alike hK, hD⟩, hS.F ht⟩) hS.2.2 d_S_tryTurn_158
  · have hf := z_f hc hf
    refine lv_iload hx hb d_S_tryTurn_132 (lv_at hl 0 rfl) ?_
    refine lv_aload_n hx hb d_S_tryTurn_134 rfl (lv_at hl 2 rfl) ?_
    refine gf_S_43 (v := .ref aE) hx hb hts hown hK hP hN_S rfl d_S_tryTurn_135 ?_
    refine gf_S_146 (v := .int E_error) hx hb hts hown hK hZ hP hN_E rfl d_S_tryTurn_138 ?_
    refine lv_icmp_ge (tgt := 158) hx hb d_S_tryTurn_141 (by decide) (fun hc => ?_) (fun hc => ?_)
    · have hf := z_t hc hf
      obtain rfl := Option.some.inj hf
      exact W.vret hx hb hr (fun t ht hW => ⟨⟨ws, rfl, (by dsimp only; exact ⟨hN_V, hN_D, hN_E, hw⟩), by rw [ht]; exact hP, va_K.moved hW.alike hK, hD⟩, hS.F ht⟩) hS.2.2 d_S_tryTurn_158
    · have hf := z_f hc hf
      refine lv_aload_n hx hb d_S_tryTurn_144 rfl (lv_at hl 2 rfl) ?_
      refine gf_S_43 (v := .ref aE) hx hb hts hown hK hP hN_S rfl d_S_tryTurn_145 ?_
      refine lv_iload_n hx hb d_S_tryTurn_148 rfl (lv_at hl 3 rfl) ?_
      refine lv_iload_n hx hb d_S_tryTurn_149 rfl (lv_at hl 4 rfl) ?_
      refine lv_iload_n hx hb d_S_tryTurn_150 rfl (lv_at hl 5 rfl) ?_
      refine lv_iload hx hb d_S_tryTurn_151 (lv_at hl 1 rfl) ?_
      refine lv_iload hx hb d_S_tryTurn_153 (lv_at hl 0 rfl) ?_
      obtain ⟨q332, hc, hf⟩ := z_b hf
      have hFc := z_free hD hS hA
      refine va_callv (va_runV (As := [.int x1, .int x2, .int q318, .int q329.toInt32, .int ((q322.2.1 - (((2 : Int32) * q329.toInt32) * q322.1)) + ((S_count * q329.toInt32) * q329.toInt32))]) (rest := []) ⟨hx, hb, hml, hown, hts⟩ (c_T_become l dC dI cI cL _ x1 x2 q318 q329.toInt32 ((q322.2.1 - (((2 : Int32) * q329.toInt32) * q322.1)) + ((S_count * q329.toInt32) * q329.toInt32)) hN_E q332 hc) (cw_S_59 hts ⟨Nat.le_of_ble_eq_true rfl, Nat.le_of_ble_eq_true rfl⟩) ⟨zbM, va_recv hK hP (ci := 4) rfl hN_E, (zpM hP hK hZ hD)⟩ rfl rfl hl.1 rfl (lv_room (Nat.le_of_ble_eq_true rfl)) d_S_tryTurn_155 ⟨Nat.zero_le _, Nat.zero_le _⟩) hS (fun q _ h => hFc q h) hFc (fun ws t H locs ht hvm hu hB hz1 hk1 hS => ?_)
      obtain ⟨hN_E, hfr⟩ := hu
      obtain ⟨hP, -, hD1⟩ := hB
      rw [ht] at hP
      have hD := hD1.weaken (fun _ _ _ h => hFc _ h)
      have hN_E : zA ws 13 (aE, .inr (4, [.int q332.1, .int q332.2.1, .int q332.2.2.1, .int q332.2.2.2.1, .int q332.2.2.2.2])) := hN_E
      have hN_S := (hfr _ (by decide)).trans hN_S
      have hN_H := (hfr _ (by decide)).trans hN_H
      have hN_HA := (hfr _ (by decide)).trans hN_HA
      have hN_V := (hfr _ (by decide)).trans hN_V
      have hN_W := (hfr _ (by decide)).trans hN_W
      have hN_D := (hfr _ (by decide)).trans hN_D
      have hw := z_frC (by decide) hw hfr
      obtain rfl := Option.some.inj hf
      exact W.vret hx hb hr (fun t ht hW => ⟨⟨ws, rfl, (by dsimp only; exact ⟨hN_V, hN_D, hN_E, hw⟩), by rw [ht]; exact hP, va_K.moved hW.alike hK, hD⟩, hS.F ht⟩) hS.2.2 d_S_tryTurn_158
def f_S_findBest_53 (p1 : Int32) (p2 : Int32) (p3 : Int32) (p4 : Int32) (p5 : Int32) (p6 : Int32) (S_size : Int32) (S_count : Int32) (S_wantedSum : Int32) (S_foundSum : Int32) (S_foundSquares : Int32) (H_side : Int32) (HA_n : Nat) (HA_f : Nat → Int32) (W_n : Nat) (W_f : Nat → Int32) (D_n : Nat) (Q_n : Nat) (Q_f : Nat → Int32) (R_n : Nat) (R_f : Nat → Int32) : Nat → Int32 → Int32 → Int32 → Int32 → Int32 → Int32 → Int32 → (Nat → Int32) → Int32 → Int32 → Int32 → Int32 → Int32 → Option (Int32 × Int32 × Int32 × Int32 × Int32 × Int32 × Int32 × (Nat → Int32) × Int32 × Int32 × Int32 × Int32 × Int32)
  | 0, _, _, _, _, _, _, _, _, _, _, _, _, _ => none
  | n + 1, v7, S_tried, V_left, V_top, V_start, V_stepAcross, V_stepDown, D_f, E_domain, E_turn, E_contrast, E_offset, E_error => if (8 : Int32) ≤ v7 then (some (v7, S_tried, V_left, V_top, V_start, V_stepAcross, V_stepDown, D_f, E_domain, E_turn, E_contrast, E_offset, E_error)) else (if v7 < 0 ∨ R_n ≤ v7.toNatClampNeg then none else (if ((R_f v7.toNatClampNeg) &&& (3 : Int32)) < 0 ∨ Q_n ≤ ((R_f v7.toNatClampNeg) &&& (3 : Int32)).toNatClampNeg then none else (if (Q_f ((R_f v7.toNatClampNeg) &&& (3 : Int32)).toNatClampNeg) = p6 then ((f_S_tryTurn p5 v7 S_size S_count S_wantedSum S_foundSum S_foundSquares H_side HA_n HA_f V_left V_top V_start V_stepAcross V_stepDown W_n W_f D_n D_f E_domain E_turn E_contrast E_offset E_error).bind (fun q338 => f_S_findBest_53 p1 p2 p3 p4 p5 p6 S_size S_count S_wantedSum S_foundSum S_foundSquares H_side HA_n HA_f W_n W_f D_n Q_n Q_f R_n R_f n (v7 + 1) (S_tried + (1 : Int32)) q338.1 q338.2.1 q338.2.2.1 q338.2.2.2.1 q338.2.2.2.2.1 q338.2.2.2.2.2.1 q338.2.2.2.2.2.2.1 q338.2.2.2.2.2.2.2.1 q338.2.2.2.2.2.2.2.2.1 q338.2.2.2.2.2.2.2.2.2.1 q338.2.2.2.2.2.2.2.2.2.2)) else (f_S_findBest_53 p1 p2 p3 p4 p5 p6 S_size S_count S_wantedSum S_foundSum S_foundSquares H_side HA_n HA_f W_n W_f D_n Q_n Q_f R_n R_f n (v7 + 1) S_tried V_left V_top V_start V_stepAcross V_stepDown D_f E_domain E_turn E_contrast E_offset E_error))))
def f_S_findBest_35 (p1 : Int32) (p2 : Int32) (p3 : Int32) (p4 : Int32) (S_size : Int32) (S_count : Int32) (S_wantedSum : Int32) (H_side : Int32) (HA_n : Nat) (HA_f : Nat → Int32) (W_n : Nat) (W_f : Nat → Int32) (D_n : Nat) (Q_n : Nat) (R_n : Nat) (R_f : Nat → Int32) : Nat → Int32 → Int32 → Int32 → Int32 → Int32 → Int32 → Int32 → Int32 → Int32 → (Nat → Int32) → (Nat → Int32) → Int32 → Int32 → Int32 → Int32 → Int32 → Option (Int32 × Int32 × Int32 × Int32 × Int32 × Int32 × Int32 × Int32 × Int32 × (Nat → Int32) × (Nat → Int32) × Int32 × Int32 × Int32 × Int32 × Int32)
  | 0, _, _, _, _, _, _, _, _, _, _, _, _, _, _, _, _ => none
  | n + 1, v5, S_tried, S_foundSum, S_foundSquares, V_left, V_top, V_start, V_stepAcross, V_stepDown, D_f, Q_f, E_domain, E_turn, E_contrast, E_offset, E_error => if p4 ≤ v5 then (some (v5, S_tried, S_foundSum, S_foundSquares, V_left, V_top, V_start, V_stepAcross, V_stepDown, D_f, Q_f, E_domain, E_turn, E_contrast, E_offset, E_error)) else ((f_S_measure v5 S_size S_foundSum S_foundSquares H_side HA_n HA_f V_left V_top V_start V_stepAcross V_stepDown Q_n Q_f).bind (fun q337 => (f_S_findBest_53 p1 p2 p3 p4 v5 q337.1 S_size S_count S_wantedSum q337.2.1 q337.2.2.1 H_side HA_n HA_f W_n W_f D_n Q_n q337.2.2.2.2.2.2.2.2 R_n R_f FU (0 : Int32) S_tried q337.2.2.2.1 q337.2.2.2.2.1 q337.2.2.2.2.2.1 q337.2.2.2.2.2.2.1 q337.2.2.2.2.2.2.2.1 D_f E_domain E_turn E_contrast E_offset E_error).bind (fun q339 => f_S_findBest_35 p1 p2 p3 p4 S_size S_count S_wantedSum H_side HA_n HA_f W_n W_f D_n Q_n R_n R_f n (v5 + 1) q339.2.1 q337.2.1 q337.2.2.1 q339.2.2.1 q339.2.2.2.1 q339.2.2.2.2.1 q339.2.2.2.2.2.1 q339.2.2.2.2.2.2.1 q339.2.2.2.2.2.2.2.1 q337.2.2.2.2.2.2.2.2 q339.2.2.2.2.2.2.2.2.1 q339.2.2.2.2.2.2.2.2.2.1 q339.2.2.2.2.2.2.2.2.2.2.1 q339.2.2.2.2.2.2.2.2.2.2.2.1 q339.2.2.2.2.2.2.2.2.2.2.2.2)))
def f_S_findBest (x1 : Int32) (x2 : Int32) (x3 : Int32) (S_tried : Int32) (S_size : Int32) (S_count : Int32) (S_wantedSum : Int32) (S_foundSum : Int32) (S_foundSquares : Int32) (P_side : Int32) (PA_n : Nat) (PA_f : Nat → Int32) (H_side : Int32) (HA_n : Nat) (HA_f : Nat → Int32) (V_left : Int32) (V_top : Int32) (V_start : Int32) (V_stepAcross : Int32) (V_stepDown : Int32) (W_n : Nat) (W_f : Nat → Int32) (D_n : Nat) (D_f : Nat → Int32) (Q_n : Nat) (Q_f : Nat → Int32) (R_n : Nat) (R_f : Nat → Int32) (E_domain : Int32) (E_turn : Int32) (E_contrast : Int32) (E_offset : Int32) (E_error : Int32) : Option (Int32 × Int32 × Int32 × Int32 × Int32 × Int32 × Int32 × Int32 × Int32 × Int32 × Int32 × (Nat → Int32) × (Nat → Int32) × (Nat → Int32) × (Nat → Int32) × Int32 × Int32 × Int32 × Int32 × Int32) := (f_S_takeBlock x1 x2 x3 P_side PA_n PA_f W_n W_f R_n R_f).bind (fun q333 => (f_T_become (0 : Int32) (0 : Int32) (0 : Int32) (0 : Int32) ((-1) : Int32)).bind (fun q334 => (f_F_domainsOf P_side x3).bind (fun q335 => (f_S_findBest_35 x1 x2 x3 q335 q333.1 q333.2.1 q333.2.2.1 H_side HA_n HA_f W_n q333.2.2.2.1 D_n Q_n R_n q333.2.2.2.2 FU (0 : Int32) S_tried S_foundSum S_foundSquares V_left V_top V_start V_stepAcross V_stepDown D_f Q_f q334.1 q334.2.1 q334.2.2.1 q334.2.2.2.1 q334.2.2.2.2).bind (fun q355 => some (q355.2.1, q333.1, q333.2.1, q333.2.2.1, q355.2.2.1, q355.2.2.2.1, q355.2.2.2.2.1, q355.2.2.2.2.2.1, q355.2.2.2.2.2.2.1, q355.2.2.2.2.2.2.2.1, q355.2.2.2.2.2.2.2.2.1, q333.2.2.2.1, q355.2.2.2.2.2.2.2.2.2.1, q355.2.2.2.2.2.2.2.2.2.2.1, q333.2.2.2.2, q355.2.2.2.2.2.2.2.2.2.2.2.1, q355.2.2.2.2.2.2.2.2.2.2.2.2.1, q355.2.2.2.2.2.2.2.2.2.2.2.2.2.1, q355.2.2.2.2.2.2.2.2.2.2.2.2.2.2.1, q355.2.2.2.2.2.2.2.2.2.2.2.2.2.2.2)))))
set_option maxHeartbeats 4000000 in
set_option maxRecDepth 100000 in
theorem c_S_findBest (l : Launch) (dC : Nat → ClassId) (dI : Nat → Nat → Nat) (cI cL : ClassId) {ws0 : va_W} (sz : Nat) {aS aP aH aV aW aD aQ aR aE aPA aHA : Nat} {S_tried S_size S_count S_wantedSum S_foundSum S_foundSquares P_mostSide P_side H_mostSide H_side V_left V_top V_start V_stepAcross V_stepDown E_domain E_turn E_contrast E_offset E_error : Int32} {PA_n HA_n W_n D_n Q_n R_n : Nat} {PA_f HA_f W_f D_f Q_f R_f : Nat → Int32} (x1 : Int32) (x2 : Int32) (x3 : Int32) (hN_S : zA ws0 8 (aS, .inr (3, [.ref aP, .ref aH, .ref aV, .ref aW, .ref aD, .ref aQ, .ref aR, .ref aE, .int S_tried, .int S_size, .int S_count, .int S_wantedSum, .int S_foundSum, .int S_foundSquares]))) (hN_P : zA ws0 1 (aP, .inr (1, [.int P_mostSide, .ref aPA, .int P_side]))) (hN_PA : zA ws0 2 (aPA, .inl (cI, PA_n, .inl PA_f))) (hN_H : zA ws0 5 (aH, .inr (1, [.int H_mostSide, .ref aHA, .int H_side]))) (hN_HA : zA ws0 6 (aHA, .inl (cI, HA_n, .inl HA_f))) (hN_V : zA ws0 7 (aV, .inr (2, [.ref aH, .int V_left, .int V_top, .int V_start, .int V_stepAcross, .int V_stepDown]))) (hN_W : zA ws0 9 (aW, .inl (cI, W_n, .inl W_f))) (hN_D : zA ws0 10 (aD, .inl (cI, D_n, .inl D_f))) (hN_Q : zA ws0 11 (aQ, .inl (cI, Q_n, .inl Q_f))) (hN_R : zA ws0 12 (aR, .inl (cI, R_n, .inl R_f))) (hN_E : zA ws0 13 (aE, .inr (4, [.int E_domain, .int E_turn, .int E_contrast, .int E_offset, .int E_error]))) (r : Int32 × Int32 × Int32 × Int32 × Int32 × Int32 × Int32 × Int32 × Int32 × Int32 × Int32 × (Nat → Int32) × (Nat → Int32) × (Nat → Int32) × (Nat → Int32) × Int32 × Int32 × Int32 × Int32 × Int32) (hf : f_S_findBest x1 x2 x3 S_tried S_size S_count S_wantedSum S_foundSum S_foundSquares P_side PA_n PA_f H_side HA_n HA_f V_left V_top V_start V_stepAcross V_stepDown W_n W_f D_n D_f Q_n Q_f R_n R_f E_domain E_turn E_contrast E_offset E_error = some r) : Met l y_S_findBest w_S_findBest rm_S_findBest (va_Pc [.ref aS, .int x1, .int x2, .int x3] (zM dC dI cI cL ws0 sz)) (va_Qv (fun ws' : va_W => zA ws' 8 (aS, .inr (3, [.ref aP, .ref aH, .ref aV, .ref aW, .ref aD, .ref aQ, .ref aR, .ref aE, .int r.1, .int r.2.1, .int r.2.2.1, .int r.2.2.2.1, .int r.2.2.2.2.1, .int r.2.2.2.2.2.1])) ∧ zA ws' 7 (aV, .inr (2, [.ref aH, .int r.2.2.2.2.2.2.1, .int r.2.2.2.2.2.2.2.1, .int r.2.2.2.2.2.2.2.2.1, .int r.2.2.2.2.2.2.2.2.2.1, .int r.2.2.2.2.2.2.2.2.2.2.1])) ∧ zA ws' 9 (aW, .inl (cI, W_n, .inl r.2.2.2.2.2.2.2.2.2.2.2.1)) ∧ zA ws' 10 (aD, .inl (cI, D_n, .inl r.2.2.2.2.2.2.2.2.2.2.2.2.1)) ∧ zA ws' 11 (aQ, .inl (cI, Q_n, .inl r.2.2.2.2.2.2.2.2.2.2.2.2.2.1)) ∧ zA ws' 12 (aR, .inl (cI, R_n, .inl r.2.2.2.2.2.2.2.2.2.2.2.2.2.2.1)) ∧ zA ws' 13 (aE, .inr (4, [.int r.2.2.2.2.2.2.2.2.2.2.2.2.2.2.2.1, .int r.2.2.2.2.2.2.2.2.2.2.2.2.2.2.2.2.1, .int r.2.2.2.2.2.2.2.2.2.2.2.2.2.2.2.2.2.1, .int r.2.2.2.2.2.2.2.2.2.2.2.2.2.2.2.2.2.2.1, .int r.2.2.2.2.2.2.2.2.2.2.2.2.2.2.2.2.2.2.2])) ∧ ∀ (j : Nat), j ∉ ([8, 7, 9, 10, 11, 12, 13] : List Nat) → ws'[j]? = ws0[j]?) (zQ dC dI cI cL (va_A ws0 sz)) (va_A ws0 sz)) 0 0 (va_A ws0 sz) := by
  refine Met.ofW (cc := b_S_findBest) (maxL := 8) (ret := none) (by decide) rfl ?_
  intro p e s m args below meth c s₁ B hml hv
  obtain ⟨rfl, hsz, hP, hK, hZ, hD0⟩ := hv
  have hx := B.exec
  have hb := B.bytes
  have hr := B.returns
  have hlocks := B.notSynchronized
  have hts : ∀ w ∈ BIG, w.before ([.ref aS, .int x1, .int x2, .int x3] : List Value).toArray s = true := fun w h => atoms_spec (ws := w_S_findBest) B.pre w (List.mem_cons_of_mem _ h)
  have hown : s.vm.findClass "FractalMaps$Search" = some m.cls := findClass_of_methodNamed B.named
  subst hsz
  have hD := hD0.self (sz := s.heap.size)
  generalize hAe : va_A ws0 s.heap.size = A at hD ⊢
  have hA : ∀ q : Nat, s.heap.size ≤ q → A q := fun q h => by rw [← hAe]; exact Or.inr h
  have hS : va_S A s.heap s.heap [] := va_S.rf
  have hw : ∀ (j : Nat), j ∉ ([8, 7, 9, 10, 11, 12, 13] : List Nat) → ws0[j]? = ws0[j]? := fun _ _ => rfl
  have hl := lv_entry ([.ref aS, .int x1, .int x2, .int x3]) (n := 8) (Nat.le_of_ble_eq_true rfl)
  rw [lg_entry_eq]
  generalize (lg_sl ([.ref aS, .int x1, .int x2, .int x3]) ++ List.replicate (8 - (lg_sl ([.ref aS, .int x1, .int x2, .int x3])).length) Slot.unset).toArray = ls at hl ⊢
  have hl : lv_has ls 8 [(0, .ref aS), (1, .int x1), (2, .int x2), (3, .int x3)] := hl
  unfold f_S_findBest at hf
  refine lv_aload_n hx hb d_S_findBest_0 rfl (lv_at hl 0 rfl) ?_
  refine lv_iload_n hx hb d_S_findBest_1 rfl (lv_at hl 1 rfl) ?_
  refine lv_iload_n hx hb d_S_findBest_2 rfl (lv_at hl 2 rfl) ?_
  refine lv_iload_n hx hb d_S_findBest_3 rfl (lv_at hl 3 rfl) ?_
  obtain ⟨q333, hc, hf⟩ := z_b hf
  have hFc := z_free hD hS hA
  refine va_callv (va_runV (As := [.int x1, .int x2, .int x3]) (rest := []) ⟨hx, hb, hml, hown, hts⟩ (c_S_takeBlock l dC dI cI cL _ x1 x2 x3 hN_S hN_P hN_PA hN_W hN_R q333 hc) (cw_S_55 hts ⟨Nat.le_of_ble_eq_true rfl, Nat.le_of_ble_eq_true rfl⟩) ⟨zbM, va_recv hK hP (ci := 3) rfl hN_S, (zpM hP hK hZ hD)⟩ rfl rfl hl.1 rfl (lv_room (Nat.le_of_ble_eq_true rfl)) d_S_findBest_4 ⟨Nat.zero_le _, Nat.zero_le _⟩) hS (fun q _ h => hFc q h) hFc (fun ws t H locs ht hvm hu hB hz1 hk1 hS => ?_)
  obtain ⟨hN_S, hN_W, hN_R, hfr⟩ := hu
  obtain ⟨hP, -, hD1⟩ := hB
  rw [ht] at hP
  have hD := hD1.weaken (fun _ _ _ h => hFc _ h)
  have hN_S : zA ws 8 (aS, .inr (3, [.ref aP, .ref aH, .ref aV, .ref aW, .ref aD, .ref aQ, .ref aR, .ref aE, .int S_tried, .int q333.1, .int q333.2.1, .int q333.2.2.1, .int S_foundSum, .int S_foundSquares])) := hN_S
  have hN_W : zA ws 9 (aW, .inl (cI, W_n, .inl q333.2.2.2.1)) := hN_W
  have hN_R : zA ws 12 (aR, .inl (cI, R_n, .inl q333.2.2.2.2)) := hN_R
  have hN_P := (hfr _ (by decide)).trans hN_P
  have hN_PA := (hfr _ (by decide)).trans hN_PA
  have hN_H := (hfr _ (by decide)).trans hN_H
  have hN_HA := (hfr _ (by decide)).trans hN_HA
  have hN_V := (hfr _ (by decide)).trans hN_V
  have hN_D := (hfr _ (by decide)).trans hN_D
  have hN_Q := (hfr _ (by decide)).trans hN_Q
  have hN_E := (hfr _ (by decide)).trans hN_E
  have hw := z_frC (by decide) hw hfr
  refine lv_aload_n hx hb d_S_findBest_7 rfl (lv_at hl 0 rfl) ?_
  refine gf_S_43 (v := .ref aE) hx hb hts hown hK hP hN_S rfl d_S_findBest_8 ?_
  refine lv_iconst (v := 0) hx hb d_S_findBest_11 (by decide) ?_
  refine lv_iconst (v := 0) hx hb d_S_findBest_12 (by decide) ?_
  refine lv_iconst (v := 0) hx hb d_S_findBest_13 (by decide) ?_
  refine lv_iconst (v := 0) hx hb d_S_findBest_14 (by decide) ?_
  refine lv_iconst (v := (-1)) hx hb d_S_findBest_15 (by decide) ?_
  obtain ⟨q334, hc, hf⟩ := z_b hf
  have hFc := z_free hD hS hA
  refine va_callv (va_runV (As := [.int (0 : Int32), .int (0 : Int32), .int (0 : Int32), .int (0 : Int32), .int ((-1) : Int32)]) (rest := []) ⟨hx, hb, hml, hown, hts⟩ (c_T_become l dC dI cI cL _ (0 : Int32) (0 : Int32) (0 : Int32) (0 : Int32) ((-1) : Int32) hN_E q334 hc) (cw_S_59 hts ⟨Nat.le_of_ble_eq_true rfl, Nat.le_of_ble_eq_true rfl⟩) ⟨zbM, va_recv hK hP (ci := 4) rfl hN_E, (zpM hP hK hZ hD)⟩ rfl rfl hl.1 rfl (lv_room (Nat.le_of_ble_eq_true rfl)) d_S_findBest_16 ⟨Nat.zero_le _, Nat.zero_le _⟩) hS (fun q _ h => hFc q h) hFc (fun ws t H locs ht hvm hu hB hz1 hk1 hS => ?_)
  obtain ⟨hN_E, hfr⟩ := hu
  obtain ⟨hP, -, hD1⟩ := hB
  rw [ht] at hP
  have hD := hD1.weaken (fun _ _ _ h => hFc _ h)
  have hN_E : zA ws 13 (aE, .inr (4, [.int q334.1, .int q334.2.1, .int q334.2.2.1, .int q334.2.2.2.1, .int q334.2.2.2.2])) := hN_E
  have hN_S := (hfr _ (by decide)).trans hN_S
  have hN_P := (hfr _ (by decide)).trans hN_P
  have hN_PA := (hfr _ (by decide)).trans hN_PA
  have hN_H := (hfr _ (by decide)).trans hN_H
  have hN_HA := (hfr _ (by decide)).trans hN_HA
  have hN_V := (hfr _ (by decide)).trans hN_V
  have hN_W := (hfr _ (by decide)).trans hN_W
  have hN_D := (hfr _ (by decide)).trans hN_D
  have hN_Q := (hfr _ (by decide)).trans hN_Q
  have hN_R := (hfr _ (by decide)).trans hN_R
  have hw := z_frC (by decide) hw hfr
  refine lv_aload_n hx hb d_S_findBest_19 rfl (lv_at hl 0 rfl) ?_
  refine gf_S_9 (v := .ref aP) hx hb hts hown hK hP hN_S rfl d_S_findBest_20 ?_
  refine gf_S_63 (v := .int P_side) hx hb hts hown hK hZ hP hN_P rfl d_S_findBest_23 ?_
  refine lv_iload_n hx hb d_S_findBest_26 rfl (lv_at hl 3 rfl) ?_
  obtain ⟨q335, hc, hf⟩ := z_b hf
  refine vp_callSi (z_cr (va_runSN (As := [.int P_side, .int x3]) (rest := []) ⟨hx, hb, hml, hown, hts⟩ (c_F_domainsOf l P_side x3 q335 hc) (cw_S_66 hts hZ ⟨Nat.le_of_ble_eq_true rfl, Nat.le_of_ble_eq_true rfl⟩) ⟨zb0, zp0⟩ rfl rfl hl.1 rfl (lv_room (Nat.le_of_ble_eq_true rfl)) d_S_findBest_27 ⟨Nat.zero_le _, Nat.zero_le _⟩)) (fun r336 hv => ?_)
  have hv := hv.symm
  subst hv
  refine lv_istore (lv' := [(4, .int q335), (0, .ref aS), (1, .int x1), (2, .int x2), (3, .int x3)]) hx hb d_S_findBest_30 hl (by decide) rfl (fun ls hl => ?_)
  refine lv_iconst (v := 0) hx hb d_S_findBest_32 (by decide) ?_
  refine lv_istore (lv' := [(5, .int (0 : Int32)), (4, .int q335), (0, .ref aS), (1, .int x1), (2, .int x2), (3, .int x3)]) hx hb d_S_findBest_33 hl (by decide) rfl (fun ls hl => ?_)
  have lp372 : ∀ (Qx : State → Prop) (n : Nat) (v5_356 : Int32) (S_tried_357 : Int32) (S_foundSum_358 : Int32) (S_foundSquares_359 : Int32) (V_left_360 : Int32) (V_top_361 : Int32) (V_start_362 : Int32) (V_stepAcross_363 : Int32) (V_stepDown_364 : Int32) (D_f_365 : Nat → Int32) (Q_f_366 : Nat → Int32) (E_domain_367 : Int32) (E_turn_368 : Int32) (E_contrast_369 : Int32) (E_offset_370 : Int32) (E_error_371 : Int32) (ws : va_W) (H : Heap) (locs : List Loc) (ls : Array Slot) (q : Int32 × Int32 × Int32 × Int32 × Int32 × Int32 × Int32 × Int32 × Int32 × (Nat → Int32) × (Nat → Int32) × Int32 × Int32 × Int32 × Int32 × Int32) (hf : f_S_findBest_35 x1 x2 x3 q335 q333.1 q333.2.1 q333.2.2.1 H_side HA_n HA_f W_n q333.2.2.2.1 D_n Q_n R_n q333.2.2.2.2 n v5_356 S_tried_357 S_foundSum_358 S_foundSquares_359 V_left_360 V_top_361 V_start_362 V_stepAcross_363 V_stepDown_364 D_f_365 Q_f_366 E_domain_367 E_turn_368 E_contrast_369 E_offset_370 E_error_371 = some q) (hl : lv_has ls 8 [(0, .ref aS), (1, .int x1), (2, .int x2), (3, .int x3), (4, .int q335), (5, .int v5_356)]) (hP : va_P (dC, dI) classes ws H) (hD : va_D A ws) (hS : va_S A s.heap H locs) (hN_S : zA ws 8 (aS, .inr (3, [.ref aP, .ref aH, .ref aV, .ref aW, .ref aD, .ref aQ, .ref aR, .ref aE, .int S_tried_357, .int q333.1, .int q333.2.1, .int q333.2.2.1, .int S_foundSum_358, .int S_foundSquares_359]))) (hN_P : zA ws 1 (aP, .inr (1, [.int P_mostSide, .ref aPA, .int P_side]))) (hN_PA : zA ws 2 (aPA, .inl (cI, PA_n, .inl PA_f))) (hN_H : zA ws 5 (aH, .inr (1, [.int H_mostSide, .ref aHA, .int H_side]))) (hN_HA : zA ws 6 (aHA, .inl (cI, HA_n, .inl HA_f))) (hN_V : zA ws 7 (aV, .inr (2, [.ref aH, .int V_left_360, .int V_top_361, .int V_start_362, .int V_stepAcross_363, .int V_stepDown_364]))) (hN_W : zA ws 9 (aW, .inl (cI, W_n, .inl q333.2.2.2.1))) (hN_D : zA ws 10 (aD, .inl (cI, D_n, .inl D_f_365))) (hN_Q : zA ws 11 (aQ, .inl (cI, Q_n, .inl Q_f_366))) (hN_R : zA ws 12 (aR, .inl (cI, R_n, .inl q333.2.2.2.2))) (hN_E : zA ws 13 (aE, .inr (4, [.int E_domain_367, .int E_turn_368, .int E_contrast_369, .int E_offset_370, .int E_error_371]))) (hw : ∀ (j : Nat), j ∉ ([8, 7, 9, 10, 11, 12, 13] : List Nat) → ws[j]? = ws0[j]?) (kt0 : ∀ (ws : va_W) (H : Heap) (locs : List Loc) (ls : Array Slot), lv_has ls 8 [(0, .ref aS), (1, .int x1), (2, .int x2), (3, .int x3), (4, .int q335), (5, .int q.1)] → (va_P (dC, dI) classes ws H) → (va_D A ws) → (va_S A s.heap H locs) → (zA ws 8 (aS, .inr (3, [.ref aP, .ref aH, .ref aV, .ref aW, .ref aD, .ref aQ, .ref aR, .ref aE, .int q.2.1, .int q333.1, .int q333.2.1, .int q333.2.2.1, .int q.2.2.1, .int q.2.2.2.1]))) → (zA ws 1 (aP, .inr (1, [.int P_mostSide, .ref aPA, .int P_side]))) → (zA ws 2 (aPA, .inl (cI, PA_n, .inl PA_f))) → (zA ws 5 (aH, .inr (1, [.int H_mostSide, .ref aHA, .int H_side]))) → (zA ws 6 (aHA, .inl (cI, HA_n, .inl HA_f))) → (zA ws 7 (aV, .inr (2, [.ref aH, .int q.2.2.2.2.1, .int q.2.2.2.2.2.1, .int q.2.2.2.2.2.2.1, .int q.2.2.2.2.2.2.2.1, .int q.2.2.2.2.2.2.2.2.1]))) → (zA ws 9 (aW, .inl (cI, W_n, .inl q333.2.2.2.1))) → (zA ws 10 (aD, .inl (cI, D_n, .inl q.2.2.2.2.2.2.2.2.2.1))) → (zA ws 11 (aQ, .inl (cI, Q_n, .inl q.2.2.2.2.2.2.2.2.2.2.1))) → (zA ws 12 (aR, .inl (cI, R_n, .inl q333.2.2.2.2))) → (zA ws 13 (aE, .inr (4, [.int q.2.2.2.2.2.2.2.2.2.2.2.1, .int q.2.2.2.2.2.2.2.2.2.2.2.2.1, .int q.2.2.2.2.2.2.2.2.2.2.2.2.2.1, .int q.2.2.2.2.2.2.2.2.2.2.2.2.2.2.1, .int q.2.2.2.2.2.2.2.2.2.2.2.2.2.2.2]))) → (∀ (j : Nat), j ∉ ([8, 7, 9, 10, 11, 12, 13] : List Nat) → ws[j]? = ws0[j]?) → W p l e (headSpec w_S_findBest rm_S_findBest).room s m ([.ref aS, .int x1, .int x2, .int x3] : List Value).toArray below meth c H locs 0 0 Qx (F0 m 109 ls [])), W p l e (headSpec w_S_findBest rm_S_findBest).room s m ([.ref aS, .int x1, .int x2, .int x3] : List Value).toArray below meth c H locs 0 0 Qx (F0 m 35 ls []) := by
    intro Qx n
    induction n with
    | zero => intro v5_356 S_tried_357 S_foundSum_358 S_foundSquares_359 V_left_360 V_top_361 V_start_362 V_stepAcross_363 V_stepDown_364 D_f_365 Q_f_366 E_domain_367 E_turn_368 E_contrast_369 E_offset_370 E_error_371 ws H locs ls q hf; cases hf
    | succ n ih =>
      intro v5_356 S_tried_357 S_foundSum_358 S_foundSquares_359 V_left_360 V_top_361 V_start_362 V_stepAcross_363 V_stepDown_364 D_f_365 Q_f_366 E_domain_367 E_turn_368 E_contrast_369 E_offset_370 E_error_371 ws H locs ls q hf hl hP hD hS hN_S hN_P hN_PA hN_H hN_HA hN_V hN_W hN_D hN_Q hN_R hN_E hw kt0
      rw [f_S_findBest_35] at hf
      refine lv_iload hx hb d_S_findBest_35 (lv_at hl 5 rfl) ?_
      refine lv_iload hx hb d_S_findBest_37 (lv_at hl 4 rfl) ?_
      refine lv_icmp_ge (tgt := 109) hx hb d_S_findBest_39 (by decide) (fun hc => ?_) (fun hc => ?_)
      · have hf := z_t hc hf
        obtain rfl := Option.some.inj hf
        exact kt0 _ _ _ ls (lv_sub hl [0, 1, 2, 3, 4, 5] rfl) hP hD hS hN_S hN_P hN_PA hN_H hN_HA hN_V hN_W hN_D hN_Q hN_R hN_E hw
      · have hf := z_f hc hf
        refine lv_aload_n hx hb d_S_findBest_42 rfl (lv_at hl 0 rfl) ?_
        refine lv_iload hx hb d_S_findBest_43 (lv_at hl 5 rfl) ?_
        obtain ⟨q373, hc, hf⟩ := z_b hf
        have hFc := z_free hD hS hA
        refine va_calli (va_runV (As := [.int v5_356]) (rest := []) ⟨hx, hb, hml, hown, hts⟩ (c_S_measure l dC dI cI cL _ v5_356 hN_S hN_H hN_HA hN_V hN_Q q373 hc) (cw_S_70 hts ⟨Nat.le_of_ble_eq_true rfl, Nat.le_of_ble_eq_true rfl⟩) ⟨zbM, va_recv hK hP (ci := 3) rfl hN_S, (zpM hP hK hZ hD)⟩ rfl rfl hl.1 rfl (lv_room (Nat.le_of_ble_eq_true rfl)) d_S_findBest_45 ⟨Nat.zero_le _, Nat.zero_le _⟩) hS (fun q _ h => hFc q h) hFc (fun rv ws t H locs ht hvm hu hB hz1 hk1 hS => ?_)
        obtain ⟨hv, hN_S, hN_V, hN_Q, hfr⟩ := hu
        subst hv
        obtain ⟨hP, -, hD1⟩ := hB
        rw [ht] at hP
        have hD := hD1.weaken (fun _ _ _ h => hFc _ h)
        have hN_S : zA ws 8 (aS, .inr (3, [.ref aP, .ref aH, .ref aV, .ref aW, .ref aD, .ref aQ, .ref aR, .ref aE, .int S_tried_357, .int q333.1, .int q333.2.1, .int q333.2.2.1, .int q373.2.1, .int q373.2.2.1])) := hN_S
        have hN_V : zA ws 7 (aV, .inr (2, [.ref aH, .int q373.2.2.2.1, .int q373.2.2.2.2.1, .int q373.2.2.2.2.2.1, .int q373.2.2.2.2.2.2.1, .int q373.2.2.2.2.2.2.2.1])) := hN_V
        have hN_Q : zA ws 11 (aQ, .inl (cI, Q_n, .inl q373.2.2.2.2.2.2.2.2)) := hN_Q
        have hN_P := (hfr _ (by decide)).trans hN_P
        have hN_PA := (hfr _ (by decide)).trans hN_PA
        have hN_H := (hfr _ (by decide)).trans hN_H
        have hN_HA := (hfr _ (by decide)).trans hN_HA
        have hN_W := (hfr _ (by decide)).trans hN_W
        have hN_D := (hfr _ (by decide)).trans hN_D
        have hN_R := (hfr _ (by decide)).trans hN_R
        have hN_E := (hfr _ (by decide)).trans hN_E
        have hw := z_frC (by decide) hw hfr
        refine lv_istore (lv' := [(6, .int q373.1), (0, .ref aS), (1, .int x1), (2, .int x2), (3, .int x3), (4, .int q335), (5, .int v5_356)]) hx hb d_S_findBest_48 hl (by decide) rfl (fun ls hl => ?_)
        refine lv_iconst (v := 0) hx hb d_S_findBest_50 (by decide) ?_
        refine lv_istore (lv' := [(7, .int (0 : Int32)), (6, .int q373.1), (0, .ref aS), (1, .int x1), (2, .int x2), (3, .int x3), (4, .int q335), (5, .int v5_356)]) hx hb d_S_findBest_51 hl (by decide) rfl (fun ls hl => ?_)
        have lp388 : ∀ (Qx : State → Prop) (n : Nat) (v7_375 : Int32) (S_tried_376 : Int32) (V_left_377 : Int32) (V_top_378 : Int32) (V_start_379 : Int32) (V_stepAcross_380 : Int32) (V_stepDown_381 : Int32) (D_f_382 : Nat → Int32) (E_domain_383 : Int32) (E_turn_384 : Int32) (E_contrast_385 : Int32) (E_offset_386 : Int32) (E_error_387 : Int32) (ws : va_W) (H : Heap) (locs : List Loc) (ls : Array Slot) (q : Int32 × Int32 × Int32 × Int32 × Int32 × Int32 × Int32 × (Nat → Int32) × Int32 × Int32 × Int32 × Int32 × Int32) (hf : f_S_findBest_53 x1 x2 x3 q335 v5_356 q373.1 q333.1 q333.2.1 q333.2.2.1 q373.2.1 q373.2.2.1 H_side HA_n HA_f W_n q333.2.2.2.1 D_n Q_n q373.2.2.2.2.2.2.2.2 R_n q333.2.2.2.2 n v7_375 S_tried_376 V_left_377 V_top_378 V_start_379 V_stepAcross_380 V_stepDown_381 D_f_382 E_domain_383 E_turn_384 E_contrast_385 E_offset_386 E_error_387 = some q) (hl : lv_has ls 8 [(0, .ref aS), (1, .int x1), (2, .int x2), (3, .int x3), (4, .int q335), (5, .int v5_356), (6, .int q373.1), (7, .int v7_375)]) (hP : va_P (dC, dI) classes ws H) (hD : va_D A ws) (hS : va_S A s.heap H locs) (hN_S : zA ws 8 (aS, .inr (3, [.ref aP, .ref aH, .ref aV, .ref aW, .ref aD, .ref aQ, .ref aR, .ref aE, .int S_tried_376, .int q333.1, .int q333.2.1, .int q333.2.2.1, .int q373.2.1, .int q373.2.2.1]))) (hN_P : zA ws 1 (aP, .inr (1, [.int P_mostSide, .ref aPA, .int P_side]))) (hN_PA : zA ws 2 (aPA, .inl (cI, PA_n, .inl PA_f))) (hN_H : zA ws 5 (aH, .inr (1, [.int H_mostSide, .ref aHA, .int H_side]))) (hN_HA : zA ws 6 (aHA, .inl (cI, HA_n, .inl HA_f))) (hN_V : zA ws 7 (aV, .inr (2, [.ref aH, .int V_left_377, .int V_top_378, .int V_start_379, .int V_stepAcross_380, .int V_stepDown_381]))) (hN_W : zA ws 9 (aW, .inl (cI, W_n, .inl q333.2.2.2.1))) (hN_D : zA ws 10 (aD, .inl (cI, D_n, .inl D_f_382))) (hN_Q : zA ws 11 (aQ, .inl (cI, Q_n, .inl q373.2.2.2.2.2.2.2.2))) (hN_R : zA ws 12 (aR, .inl (cI, R_n, .inl q333.2.2.2.2))) (hN_E : zA ws 13 (aE, .inr (4, [.int E_domain_383, .int E_turn_384, .int E_contrast_385, .int E_offset_386, .int E_error_387]))) (hw : ∀ (j : Nat), j ∉ ([8, 7, 9, 10, 11, 12, 13] : List Nat) → ws[j]? = ws0[j]?) (kt0 : ∀ (ws : va_W) (H : Heap) (locs : List Loc) (ls : Array Slot), lv_has ls 8 [(0, .ref aS), (1, .int x1), (2, .int x2), (3, .int x3), (4, .int q335), (5, .int v5_356), (6, .int q373.1), (7, .int q.1)] → (va_P (dC, dI) classes ws H) → (va_D A ws) → (va_S A s.heap H locs) → (zA ws 8 (aS, .inr (3, [.ref aP, .ref aH, .ref aV, .ref aW, .ref aD, .ref aQ, .ref aR, .ref aE, .int q.2.1, .int q333.1, .int q333.2.1, .int q333.2.2.1, .int q373.2.1, .int q373.2.2.1]))) → (zA ws 1 (aP, .inr (1, [.int P_mostSide, .ref aPA, .int P_side]))) → (zA ws 2 (aPA, .inl (cI, PA_n, .inl PA_f))) → (zA ws 5 (aH, .inr (1, [.int H_mostSide, .ref aHA, .int H_side]))) → (zA ws 6 (aHA, .inl (cI, HA_n, .inl HA_f))) → (zA ws 7 (aV, .inr (2, [.ref aH, .int q.2.2.1, .int q.2.2.2.1, .int q.2.2.2.2.1, .int q.2.2.2.2.2.1, .int q.2.2.2.2.2.2.1]))) → (zA ws 9 (aW, .inl (cI, W_n, .inl q333.2.2.2.1))) → (zA ws 10 (aD, .inl (cI, D_n, .inl q.2.2.2.2.2.2.2.1))) → (zA ws 11 (aQ, .inl (cI, Q_n, .inl q373.2.2.2.2.2.2.2.2))) → (zA ws 12 (aR, .inl (cI, R_n, .inl q333.2.2.2.2))) → (zA ws 13 (aE, .inr (4, [.int q.2.2.2.2.2.2.2.2.1, .int q.2.2.2.2.2.2.2.2.2.1, .int q.2.2.2.2.2.2.2.2.2.2.1, .int q.2.2.2.2.2.2.2.2.2.2.2.1, .int q.2.2.2.2.2.2.2.2.2.2.2.2]))) → (∀ (j : Nat), j ∉ ([8, 7, 9, 10, 11, 12, 13] : List Nat) → ws[j]? = ws0[j]?) → W p l e (headSpec w_S_findBest rm_S_findBest).room s m ([.ref aS, .int x1, .int x2, .int x3] : List Value).toArray below meth c H locs 0 0 Qx (F0 m 103 ls [])), W p l e (headSpec w_S_findBest rm_S_findBest).room s m ([.ref aS, .int x1, .int x2, .int x3] : List Value).toArray below meth c H locs 0 0 Qx (F0 m 53 ls []) := by
          intro Qx n
          induction n with
          | zero => intro v7_375 S_tried_376 V_left_377 V_top_378 V_start_379 V_stepAcross_380 V_stepDown_381 D_f_382 E_domain_383 E_turn_384 E_contrast_385 E_offset_386 E_error_387 ws H locs ls q hf; cases hf
          | succ n ih =>
            intro v7_375 S_tried_376 V_left_377 V_top_378 V_start_379 V_stepAcross_380 V_stepDown_381 D_f_382 E_domain_383 E_turn_384 E_contrast_385 E_offset_386 E_error_387 ws H locs ls q hf hl hP hD hS hN_S hN_P hN_PA hN_H hN_HA hN_V hN_W hN_D hN_Q hN_R hN_E hw kt0
            rw [f_S_findBest_53] at hf
            refine lv_iload hx hb d_S_findBest_53 (lv_at hl 7 rfl) ?_
            refine lv_bipush (v := 8) hx hb d_S_findBest_55 (by decide) ?_
            refine lv_icmp_ge (tgt := 103) hx hb d_S_findBest_57 (by decide) (fun hc => ?_) (fun hc => ?_)
            · have hf := z_t hc hf
              obtain rfl := Option.some.inj hf
              exact kt0 _ _ _ ls (lv_sub hl [0, 1, 2, 3, 4, 5, 6, 7] rfl) hP hD hS hN_S hN_P hN_PA hN_H hN_HA hN_V hN_W hN_D hN_Q hN_R hN_E hw
            · have hf := z_f hc hf
              refine lv_aload_n hx hb d_S_findBest_60 rfl (lv_at hl 0 rfl) ?_
              refine gf_S_34 (v := .ref aQ) hx hb hts hown hK hP hN_S rfl d_S_findBest_61 ?_
              refine lv_aload_n hx hb d_S_findBest_64 rfl (lv_at hl 0 rfl) ?_
              refine gf_S_37 (v := .ref aR) hx hb hts hown hK hP hN_S rfl d_S_findBest_65 ?_
              refine lv_iload hx hb d_S_findBest_68 (lv_at hl 7 rfl) ?_
              obtain ⟨hin, hf⟩ := z_no hf
              refine va_iald hx hb hK hP _ 0 hN_R rfl hin d_S_findBest_70 ?_
              refine lv_iconst (v := 3) hx hb d_S_findBest_71 (by decide) ?_
              refine lv_iand hx hb d_S_findBest_72 ?_
              obtain ⟨hin, hf⟩ := z_no hf
              refine va_iald hx hb hK hP _ 0 hN_Q rfl hin d_S_findBest_73 ?_
              refine lv_iload hx hb d_S_findBest_74 (lv_at hl 6 rfl) ?_
              refine lv_icmp_ne (tgt := 97) hx hb d_S_findBest_76 (by decide) (fun hc => ?_) (fun hc => ?_)
              · have hf := z_f hc hf
                refine lv_iinc (v := (v7_375 + 1)) (lv' := [(7, .int (v7_375 + 1)), (0, .ref aS), (1, .int x1), (2, .int x2), (3, .int x3), (4, .int q335), (5, .int v5_356), (6, .int q373.1)]) hx hb d_S_findBest_97 hl (k := 7) rfl rfl (by decide) rfl (fun ls hl => ?_)
                refine lv_goto (tgt := 53) hx hb d_S_findBest_100 (by decide) ?_
                exact ih (v7_375 + 1) S_tried_376 V_left_377 V_top_378 V_start_379 V_stepAcross_380 V_stepDown_381 D_f_382 E_domain_383 E_turn_384 E_contrast_385 E_offset_386 E_error_387 _ _ _ ls _ hf (lv_sub hl [1, 2, 3, 4, 5, 6, 7, 0] rfl) hP hD hS hN_S hN_P hN_PA hN_H hN_HA hN_V hN_W hN_D hN_Q hN_R hN_E hw kt0
              · have hf := z_t hc hf
                refine lv_aload_n hx hb d_S_findBest_79 rfl (lv_at hl 0 rfl) ?_
                refine lv_dup hx hb d_S_findBest_80 rfl ?_
                refine gf_S_47 (v := .int S_tried_376) hx hb hts hown hK hP hN_S rfl d_S_findBest_81 ?_
                refine lv_iconst (v := 1) hx hb d_S_findBest_84 (by decide) ?_
                refine lv_iadd hx hb d_S_findBest_85 ?_
                refine pf_S_47 (v := .int (S_tried_376 + (1 : Int32))) hx hb hts hown hK hP hD hS hN_S rfl rfl (Nat.le_of_ble_eq_true rfl) d_S_findBest_86 (fun ws H locs hP hD hS hN_S hfr => ?_)
                have hN_S : zA ws 8 (aS, .inr (3, [.ref aP, .ref aH, .ref aV, .ref aW, .ref aD, .ref aQ, .ref aR, .ref aE, .int (S_tried_376 + (1 : Int32)), .int q333.1, .int q333.2.1, .int q333.2.2.1, .int q373.2.1, .int q373.2.2.1])) := hN_S
                have hN_P := (hfr _ (by decide)).trans hN_P
                have hN_PA := (hfr _ (by decide)).trans hN_PA
                have hN_H := (hfr _ (by decide)).trans hN_H
                have hN_HA := (hfr _ (by decide)).trans hN_HA
                have hN_V := (hfr _ (by decide)).trans hN_V
                have hN_W := (hfr _ (by decide)).trans hN_W
                have hN_D := (hfr _ (by decide)).trans hN_D
                have hN_Q := (hfr _ (by decide)).trans hN_Q
                have hN_R := (hfr _ (by decide)).trans hN_R
                have hN_E := (hfr _ (by decide)).trans hN_E
                have hw := z_fr (by decide) hw hfr
                refine lv_aload_n hx hb d_S_findBest_89 rfl (lv_at hl 0 rfl) ?_
                refine lv_iload hx hb d_S_findBest_90 (lv_at hl 5 rfl) ?_
                refine lv_iload hx hb d_S_findBest_92 (lv_at hl 7 rfl) ?_
                obtain ⟨q389, hc, hf⟩ := z_b hf
                have hFc := z_free hD hS hA
                refine va_callv (va_runV (As := [.int v5_356, .int v7_375]) (rest := []) ⟨hx, hb, hml, hown, hts⟩ (c_S_tryTurn l dC dI cI cL _ v5_356 v7_375 hN_S hN_H hN_HA hN_V hN_W hN_D hN_E q389 hc) (cw_S_74 hts ⟨Nat.le_of_ble_eq_true rfl, Nat.le_of_ble_eq_true rfl⟩) ⟨zbM, va_recv hK hP (ci := 3) rfl hN_S, (zpM hP hK hZ hD)⟩ rfl rfl hl.1 rfl (lv_room (Nat.le_of_ble_eq_true rfl)) d_S_findBest_94 ⟨Nat.zero_le _, Nat.zero_le _⟩) hS (fun q _ h => hFc q h) hFc (fun ws t H locs ht hvm hu hB hz1 hk1 hS => ?_)
                obtain ⟨hN_V, hN_D, hN_E, hfr⟩ := hu
                obtain ⟨hP, -, hD1⟩ := hB
                rw [ht] at hP
                have hD := hD1.weaken (fun _ _ _ h => hFc _ h)
                have hN_V : zA ws 7 (aV, .inr (2, [.ref aH, .int q389.1, .int q389.2.1, .int q389.2.2.1, .int q389.2.2.2.1, .int q389.2.2.2.2.1])) := hN_V
                have hN_D : zA ws 10 (aD, .inl (cI, D_n, .inl q389.2.2.2.2.2.1)) := hN_D
                have hN_E : zA ws 13 (aE, .inr (4, [.int q389.2.2.2.2.2.2.1, .int q389.2.2.2.2.2.2.2.1, .int q389.2.2.2.2.2.2.2.2.1, .int q389.2.2.2.2.2.2.2.2.2.1, .int q389.2.2.2.2.2.2.2.2.2.2])) := hN_E
                have hN_S := (hfr _ (by decide)).trans hN_S
                have hN_P := (hfr _ (by decide)).trans hN_P
                have hN_PA := (hfr _ (by decide)).trans hN_PA
                have hN_H := (hfr _ (by decide)).trans hN_H
                have hN_HA := (hfr _ (by decide)).trans hN_HA
                have hN_W := (hfr _ (by decide)).trans hN_W
                have hN_Q := (hfr _ (by decide)).trans hN_Q
                have hN_R := (hfr _ (by decide)).trans hN_R
                have hw := z_frC (by decide) hw hfr
                refine lv_iinc (v := (v7_375 + 1)) (lv' := [(7, .int (v7_375 + 1)), (0, .ref aS), (1, .int x1), (2, .int x2), (3, .int x3), (4, .int q335), (5, .int v5_356), (6, .int q373.1)]) hx hb d_S_findBest_97 hl (k := 7) rfl rfl (by decide) rfl (fun ls hl => ?_)
                refine lv_goto (tgt := 53) hx hb d_S_findBest_100 (by decide) ?_
                exact ih (v7_375 + 1) (S_tried_376 + (1 : Int32)) q389.1 q389.2.1 q389.2.2.1 q389.2.2.2.1 q389.2.2.2.2.1 q389.2.2.2.2.2.1 q389.2.2.2.2.2.2.1 q389.2.2.2.2.2.2.2.1 q389.2.2.2.2.2.2.2.2.1 q389.2.2.2.2.2.2.2.2.2.1 q389.2.2.2.2.2.2.2.2.2.2 _ _ _ ls _ hf (lv_sub hl [1, 2, 3, 4, 5, 6, 7, 0] rfl) hP hD hS hN_S hN_P hN_PA hN_H hN_HA hN_V hN_W hN_D hN_Q hN_R hN_E hw kt0
        obtain ⟨q374, hc, hf⟩ := z_b hf
        refine lp388 _ FU (0 : Int32) S_tried_357 q373.2.2.2.1 q373.2.2.2.2.1 q373.2.2.2.2.2.1 q373.2.2.2.2.2.2.1 q373.2.2.2.2.2.2.2.1 D_f_365 E_domain_367 E_turn_368 E_contrast_369 E_offset_370 E_error_371 _ _ _ ls q374 hc (lv_sub hl [2, 3, 4, 5, 6, 7, 1, 0] rfl) hP hD hS hN_S hN_P hN_PA hN_H hN_HA hN_V hN_W hN_D hN_Q hN_R hN_E hw (fun ws H locs ls hl hP hD hS hN_S hN_P hN_PA hN_H hN_HA hN_V hN_W hN_D hN_Q hN_R hN_E hw => ?_)
        refine lv_iinc (v := (v5_356 + 1)) (lv' := [(5, .int (v5_356 + 1)), (0, .ref aS), (1, .int x1), (2, .int x2), (3, .int x3), (4, .int q335), (6, .int q373.1), (7, .int q374.1)]) hx hb d_S_findBest_103 hl (k := 5) rfl rfl (by decide) rfl (fun ls hl => ?_)
        refine lv_goto (tgt := 35) hx hb d_S_findBest_106 (by decide) ?_
        exact ih (v5_356 + 1) q374.2.1 q373.2.1 q373.2.2.1 q374.2.2.1 q374.2.2.2.1 q374.2.2.2.2.1 q374.2.2.2.2.2.1 q374.2.2.2.2.2.2.1 q374.2.2.2.2.2.2.2.1 q373.2.2.2.2.2.2.2.2 q374.2.2.2.2.2.2.2.2.1 q374.2.2.2.2.2.2.2.2.2.1 q374.2.2.2.2.2.2.2.2.2.2.1 q374.2.2.2.2.2.2.2.2.2.2.2.1 q374.2.2.2.2.2.2.2.2.2.2.2.2 _ _ _ ls _ hf (lv_sub hl [1, 2, 3, 4, 5, 0] rfl) hP hD hS hN_S hN_P hN_PA hN_H hN_HA hN_V hN_W hN_D hN_Q hN_R hN_E hw kt0
  obtain ⟨q355, hc, hf⟩ := z_b hf
  refine lp372 _ FU (0 : Int32) S_tried S_foundSum S_foundSquares V_left V_top V_start V_stepAcross V_stepDown D_f Q_f q334.1 q334.2.1 q334.2.2.1 q334.2.2.2.1 q334.2.2.2.2 _ _ _ ls q355 hc (lv_sub hl [2, 3, 4, 5, 1, 0] rfl) hP hD hS hN_S hN_P hN_PA hN_H hN_HA hN_V hN_W hN_D hN_Q hN_R hN_E hw (fun ws H locs ls hl hP hD hS hN_S hN_P hN_PA hN_H hN_HA hN_V hN_W hN_D hN_Q hN_R hN_E hw => ?_)
  obtain rfl := Option.some.inj hf
  exact W.vret hx hb hr (fun t ht hW => ⟨⟨ws, rfl, (by dsimp only; exact ⟨hN_S, hN_V, hN_W, hN_D, hN_Q, hN_R, hN_E, hw⟩), by rw [ht]; exact hP, va_K.moved hW.alike hK, hD⟩, hS.F ht⟩) hS.2.2 d_S_findBest_109
def f_K_wipe : Option (Int32) := some (0 : Int32)
set_option maxHeartbeats 4000000 in
set_option maxRecDepth 100000 in
theorem c_K_wipe (l : Launch) (dC : Nat → ClassId) (dI : Nat → Nat → Nat) (cI cL : ClassId) {ws0 : va_W} (sz : Nat) {kK aK aKA : Nat} {K_count : Int32} (hN_K : zA ws0 kK (aK, .inr (5, [.ref aKA, .int K_count]))) (r : Int32) (hf : f_K_wipe = some r) : Met l y_K_wipe w_K_wipe rm_K_wipe (va_Pc [.ref aK] (zM dC dI cI cL ws0 sz)) (va_Qv (fun ws' : va_W => zA ws' kK (aK, .inr (5, [.ref aKA, .int r])) ∧ ∀ (j : Nat), j ∉ ([kK] : List Nat) → ws'[j]? = ws0[j]?) (zQ dC dI cI cL (va_A ws0 sz)) (va_A ws0 sz)) 0 0 (va_A ws0 sz) := by
  refine Met.ofW (cc := b_K_wipe) (maxL := 1) (ret := none) (by decide) rfl ?_
  intro p e s m args below meth c s₁ B hml hv
  obtain ⟨rfl, hsz, hP, hK, hZ, hD0⟩ := hv
  have hx := B.exec
  have hb := B.bytes
  have hr := B.returns
  have hlocks := B.notSynchronized
  have hts : ∀ w ∈ BIG, w.before ([.ref aK] : List Value).toArray s = true := fun w h => atoms_spec (ws := w_K_wipe) B.pre w (List.mem_cons_of_mem _ h)
  have hown : s.vm.findClass "FractalMaps$Blocks" = some m.cls := findClass_of_methodNamed B.named
  subst hsz
  have hD := hD0.self (sz := s.heap.size)
  generalize hAe : va_A ws0 s.heap.size = A at hD ⊢
  have hA : ∀ q : Nat, s.heap.size ≤ q → A q := fun q h => by rw [← hAe]; exact Or.inr h
  have hS : va_S A s.heap s.heap [] := va_S.rf
  have hw : ∀ (j : Nat), j ∉ ([kK] : List Nat) → ws0[j]? = ws0[j]? := fun _ _ => rfl
  have hl := lv_entry ([.ref aK]) (n := 1) (Nat.le_of_ble_eq_true rfl)
  rw [lg_entry_eq]
  generalize (lg_sl ([.ref aK]) ++ List.replicate (1 - (lg_sl ([.ref aK])).length) Slot.unset).toArray = ls at hl ⊢
  have hl : lv_has ls 1 [(0, .ref aK)] := hl
  unfold f_K_wipe at hf
  refine lv_aload_n hx hb d_K_wipe_0 rfl (lv_at hl 0 rfl) ?_
  refine lv_iconst (v := 0) hx hb d_K_wipe_1 (by decide) ?_
  refine pf_K_24 (v := .int (0 : Int32)) hx hb hts hown hK hP hD hS hN_K rfl rfl (Nat.le_of_ble_eq_true rfl) d_K_wipe_2 (fun ws H locs hP hD hS hN_K hfr => ?_)
  have hN_K : zA ws kK (aK, .inr (5, [.ref aKA, .int (0 : Int32)])) := hN_K
  have hw := z_fr List.mem_cons_self hw hfr
  obtain rfl := Option.some.inj hf
  exact W.vret hx hb hr (fun t ht hW => ⟨⟨ws, rfl, ⟨hN_K, hw⟩, by rw [ht]; exact hP, va_K.moved hW.alike hK, hD⟩, hS.F ht⟩) hS.2.2 d_K_wipe_5
