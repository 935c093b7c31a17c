def f_S_findBest_53 (p1 : Int32) (p2 : Int32) (p3 : Int32) (p4 : Int32) (p5 : Int32) (p6 : Int32) (S_size : Int32) (S_count : Int32) (S_wantedSum : Int32) (S_foundSum : Int32) (S_foundSquares : Int32) (H_side : Int32) (HA_n : Nat) (HA_f : Nat → Int32) (W_n : Nat) (W_f : Nat → Int32) (D_n : Nat) (Q_n : Nat) (Q_f : Nat → Int32) (R_n : Nat) (R_f : Nat → Int32) : Nat → Int32 → Int32 → Int32 → Int32 → Int32 → Int32 → Int32 → (Nat → Int32) → Int32 → Int32 → Int32 → Int32 → Int32 → Option (Int32 × Int32 × Int32 × Int32 × Int32 × Int32 × Int32 × (Nat → Int32) × Int32 × Int32 × Int32 × Int32 × Int32)
  | 0, _, _, _, _, _, _, _, _, _, _, _, _, _ => none
  | n + 1, v7, S_tried, V_left, V_top, V_start, V_stepAcross, V_stepDown, D_f, E_domain, E_turn, E_contrast, E_offset, E_error => if (8 : Int32) ≤ v7 then (some (v7, S_tried, V_left, V_top, V_start, V_stepAcross, V_stepDown, D_f, E_domain, E_turn, E_contrast, E_offset, E_error)) else (if v7 < 0 ∨ R_n ≤ v7.toNatClampNeg then none else (if ((R_f v7.toNatClampNeg) &&& (3 : Int32)) < 0 ∨ Q_n ≤ ((R_f v7.toNatClampNeg) &&& (3 : Int32)).toNatClampNeg then none else (if (Q_f ((R_f v7.toNatClampNeg) &&& (3 : Int32)).toNatClampNeg) = p6 then ((f_S_tryTurn p5 v7 S_size S_count S_wantedSum S_foundSum S_foundSquares H_side HA_n HA_f V_left V_top V_start V_stepAcross V_stepDown W_n W_f D_n D_f E_domain E_turn E_contrast E_offset E_error).bind (fun q338 => f_S_findBest_53 p1 p2 p3 p4 p5 p6 S_size S_count S_wantedSum S_foundSum S_foundSquares H_side HA_n HA_f W_n W_f D_n Q_n Q_f R_n R_f n (v7 + 1) (S_tried + (1 : Int32)) q338.1 q338.2.1 q338.2.2.1 q338.2.2.2.1 q338.2.2.2.2.1 q338.2.2.2.2.2.1 q338.2.2.2.2.2.2.1 q338.2.2.2.2.2.2.2.1 q338.2.2.2.2.2.2.2.2.1 q338.2.2.2.2.2.2.2.2.2.1 q338.2.2.2.2.2.2.2.2.2.2)) else (f_S_findBest_53 p1 p2 p3 p4 p5 p6 S_size S_count S_wantedSum S_foundSum S_foundSquares H_side HA_n HA_f W_n W_f D_n Q_n Q_f R_n R_f n (v7 + 1) S_tried V_left V_top V_start V_stepAcross V_stepDown D_f E_domain E_turn E_contrast E_offset E_error))))
def f_S_findBest_35 (p1 : Int32) (p2 : Int32) (p3 : Int32) (p4 : Int32) (S_size : Int32) (S_count : Int32) (S_wantedSum : Int32) (H_side : Int32) (HA_n : Nat) (HA_f : Nat → Int32) (W_n : Nat) (W_f : Nat → Int32) (D_n : Nat) (Q_n : Nat) (R_n : Nat) (R_f : Nat → Int32) : Nat → Int32 → Int32 → Int32 → Int32 → Int32 → Int32 → Int32 → Int32 → Int32 → (Nat → Int32) → (Nat → Int32) → Int32 → Int32 → Int32 → Int32 → Int32 → Option (Int32 × Int32 × Int32 × Int32 × Int32 × Int32 × Int32 × Int32 × Int32 × (Nat → Int32) × (Nat → Int32) × Int32 × Int32 × Int32 × Int32 × Int32)
  | 0, _, _, _, _, _, _, _, _, _, _, _, _, _, _, _, _ => none
  | n + 1, v5, S_tried, S_foundSum, S_foundSquares, V_left, V_top, V_start, V_stepAcross, V_stepDown, D_f, Q_f, E_domain, E_turn, E_contrast, E_offset, E_error => if p4 ≤ v5 then (some (v5, S_tried, S_foundSum, S_foundSquares, V_left, V_top, V_start, V_stepAcross, V_stepDown, D_f, Q_f, E_domain, E_turn, E_contrast, E_offset, E_error)) else ((f_S_measure v5 S_size S_foundSum S_foundSquares H_side HA_n HA_f V_left V_top V_start V_stepAcross V_stepDown Q_n Q_f).bind (fun q337 => (f_S_findBest_53 p1 p2 p3 p4 v5 q337.1 S_size S_count S_wantedSum q337.2.1 q337.2.2.1 H_side HA_n HA_f W_n W_f D_n Q_n q337.2.2.2.2.2.2.2.2 R_n R_f FU (0 : Int32) S_tried q337.2.2.2.1 q337.2.2.2.2.1 q337.2.2.2.2.2.1 q337.2.2.2.2.2.2.1 q337.2.2.2.2.2.2.2.1 D_f E_domain E_turn E_contrast E_offset E_error).bind (fun q339 => f_S_findBest_35 p1 p2 p3 p4 S_size S_count S_wantedSum H_side HA_n HA_f W_n W_f D_n Q_n R_n R_f n (v5 + 1) q339.2.1 q337.2.1 q337.2.2.1 q339.2.2.1 q339.2.2.2.1 q339.2.2.2.2.1 q339.2.2.2.2.2.1 q339.2.2.2.2.2.2.1 q339.2.2.2.2.2.2.2.1 q337.2.2.2.2.2.2.2.2 q339.2.2.2.2.2.2.2.2.1 q339.2.2.2.2.2.2.2.2.2.1 q339.2.2.2.2.2.2.2.2.2.2.1 q339.2.2.2.2.2.2.2.2.2.2.2.1 q339.2.2.2.2.2.2.2.2.2.2.2.2)))
def f_S_findBest (x1 : Int32) (x2 : Int32) (x3 : Int32) (S_tried : Int32) (S_size : Int32) (S_count : Int32) (S_wantedSum : Int32) (S_foundSum : Int32) (S_foundSquares : Int32) (P_side : Int32) (PA_n : Nat) (PA_f : Nat → Int32) (H_side : Int32) (HA_n : Nat) (HA_f : Nat → Int32) (V_left : Int32) (V_top : Int32) (V_start : Int32) (V_stepAcross : Int32) (V_stepDown : Int32) (W_n : Nat) (W_f : Nat → Int32) (D_n : Nat) (D_f : Nat → Int32) (Q_n : Nat) (Q_f : Nat → Int32) (R_n : Nat) (R_f : Nat → Int32) (E_domain : Int32) (E_turn : Int32) (E_contrast : Int32) (E_offset : Int32) (E_error : Int32) : Option (Int32 × Int32 × Int32 × Int32 × Int32 × Int32 × Int32 × Int32 × Int32 × Int32 × Int32 × (Nat → Int32) × (Nat → Int32) × (Nat → Int32) × (Nat → Int32) × Int32 × Int32 × Int32 × Int32 × Int32) := (f_S_takeBlock x1 x2 x3 P_side PA_n PA_f W_n W_f R_n R_f).bind (fun q333 => (f_T_become (0 : Int32) (0 : Int32) (0 : Int32) (0 : Int32) ((-1) : Int32)).bind (fun q334 => (f_F_domainsOf P_side x3).bind (fun q335 => (f_S_findBest_35 x1 x2 x3 q335 q333.1 q333.2.1 q333.2.2.1 H_side HA_n HA_f W_n q333.2.2.2.1 D_n Q_n R_n q333.2.2.2.2 FU (0 : Int32) S_tried S_foundSum S_foundSquares V_left V_top V_start V_stepAcross V_stepDown D_f Q_f q334.1 q334.2.1 q334.2.2.1 q334.2.2.2.1 q334.2.2.2.2).bind (fun q355 => some (q355.2.1, q333.1, q333.2.1, q333.2.2.1, q355.2.2.1, q355.2.2.2.1, q355.2.2.2.2.1, q355.2.2.2.2.2.1, q355.2.2.2.2.2.2.1, q355.2.2.2.2.2.2.2.1, q355.2.2.2.2.2.2.2.2.1, q333.2.2.2.1, q355.2.2.2.2.2.2.2.2.2.1, q355.2.2.2.2.2.2.2.2.2.2.1, q333.2.2.2.2, q355.2.2.2.2.2.2.2.2.2.2.2.1, q355.2.2.2.2.2.2.2.2.2.2.2.2.1, q355.2.2.2.2.2.2.2.2.2.2.2.2.2.1, q355.2.2.2.2.2.2.2.2.2.2.2.2.2.2.1, q355.2.2.2.2.2.2.2.2.2.2.2.2.2.2.2)))))
set_option maxHeartbeats 4000000 in
set_option maxRecDepth 100000 in
theorem c_S_findBest (l : Launch) (dC : Nat → ClassId) (dI : Nat → Nat → Nat) (cI cL : ClassId) {ws0 : va_W} (sz : Nat) {aS aP aH aV aW aD aQ aR aE aPA aHA : Nat} {S_tried S_size S_count S_wantedSum S_foundSum S_foundSquares P_mostSide P_side H_mostSide H_side V_left V_top V_start V_stepAcross V_stepDown E_domain E_turn E_contrast E_offset E_error : Int32} {PA_n HA_n W_n D_n Q_n R_n : Nat} {PA_f HA_f W_f D_f Q_f R_f : Nat → Int32} (x1 : Int32) (x2 : Int32) (x3 : Int32) (hN_S : ws0[8]? = some (aS, .inr (3, [.ref aP, .ref aH, .ref aV, .ref aW, .ref aD, .ref aQ, .ref aR, .ref aE, .int S_tried, .int S_size, .int S_count, .int S_wantedSum, .int S_foundSum, .int S_foundSquares]))) (hN_P : ws0[1]? = some (aP, .inr (1, [.int P_mostSide, .ref aPA, .int P_side]))) (hN_PA : ws0[2]? = some (aPA, .inl (cI, PA_n, .inl PA_f))) (hN_H : ws0[5]? = some (aH, .inr (1, [.int H_mostSide, .ref aHA, .int H_side]))) (hN_HA : ws0[6]? = some (aHA, .inl (cI, HA_n, .inl HA_f))) (hN_V : ws0[7]? = some (aV, .inr (2, [.ref aH, .int V_left, .int V_top, .int V_start, .int V_stepAcross, .int V_stepDown]))) (hN_W : ws0[9]? = some (aW, .inl (cI, W_n, .inl W_f))) (hN_D : ws0[10]? = some (aD, .inl (cI, D_n, .inl D_f))) (hN_Q : ws0[11]? = some (aQ, .inl (cI, Q_n, .inl Q_f))) (hN_R : ws0[12]? = some (aR, .inl (cI, R_n, .inl R_f))) (hN_E : ws0[13]? = some (aE, .inr (4, [.int E_domain, .int E_turn, .int E_contrast, .int E_offset, .int E_error]))) (r : Int32 × Int32 × Int32 × Int32 × Int32 × Int32 × Int32 × Int32 × Int32 × Int32 × Int32 × (Nat → Int32) × (Nat → Int32) × (Nat → Int32) × (Nat → Int32) × Int32 × Int32 × Int32 × Int32 × Int32) (hf : f_S_findBest x1 x2 x3 S_tried S_size S_count S_wantedSum S_foundSum S_foundSquares P_side PA_n PA_f H_side HA_n HA_f V_left V_top V_start V_stepAcross V_stepDown W_n W_f D_n D_f Q_n Q_f R_n R_f E_domain E_turn E_contrast E_offset E_error = some r) : Met l y_S_findBest w_S_findBest rm_S_findBest (va_Pc [.ref aS, .int x1, .int x2, .int x3] (zM dC dI cI cL ws0 sz)) (va_Qv (fun ws' : va_W => ws'[8]? = some (aS, .inr (3, [.ref aP, .ref aH, .ref aV, .ref aW, .ref aD, .ref aQ, .ref aR, .ref aE, .int r.1, .int r.2.1, .int r.2.2.1, .int r.2.2.2.1, .int r.2.2.2.2.1, .int r.2.2.2.2.2.1])) ∧ ws'[7]? = some (aV, .inr (2, [.ref aH, .int r.2.2.2.2.2.2.1, .int r.2.2.2.2.2.2.2.1, .int r.2.2.2.2.2.2.2.2.1, .int r.2.2.2.2.2.2.2.2.2.1, .int r.2.2.2.2.2.2.2.2.2.2.1])) ∧ ws'[9]? = some (aW, .inl (cI, W_n, .inl r.2.2.2.2.2.2.2.2.2.2.2.1)) ∧ ws'[10]? = some (aD, .inl (cI, D_n, .inl r.2.2.2.2.2.2.2.2.2.2.2.2.1)) ∧ ws'[11]? = some (aQ, .inl (cI, Q_n, .inl r.2.2.2.2.2.2.2.2.2.2.2.2.2.1)) ∧ ws'[12]? = some (aR, .inl (cI, R_n, .inl r.2.2.2.2.2.2.2.2.2.2.2.2.2.2.1)) ∧ ws'[13]? = some (aE, .inr (4, [.int r.2.2.2.2.2.2.2.2.2.2.2.2.2.2.2.1, .int r.2.2.2.2.2.2.2.2.2.2.2.2.2.2.2.2.1, .int r.2.2.2.2.2.2.2.2.2.2.2.2.2.2.2.2.2.1, .int r.2.2.2.2.2.2.2.2.2.2.2.2.2.2.2.2.2.2.1, .int r.2.2.2.2.2.2.2.2.2.2.2.2.2.2.2.2.2.2.2])) ∧ ∀ (j : Nat), j ∉ ([8, 7, 9, 10, 11, 12, 13] : List Nat) → ws'[j]? = ws0[j]?) (zQ dC dI cI cL (va_A ws0 sz)) (va_A ws0 sz)) 0 0 (va_A ws0 sz) := by
  refine Met.ofW (cc := b_S_findBest) (maxL := 8) (ret := none) (by decide) rfl ?_
  intro p e s m args below meth c s₁ B hml hv
  obtain ⟨rfl, hsz, hP, hK, hZ, hD0⟩ := hv
  have hx := B.exec
  have hb := B.bytes
  have hr := B.returns
  have hlocks := B.notSynchronized
  have hts : ∀ w ∈ BIG, w.before ([.ref aS, .int x1, .int x2, .int x3] : List Value).toArray s = true := fun w h => atoms_spec (ws := w_S_findBest) B.pre w (List.mem_cons_of_mem _ h)
  have hown : s.vm.findClass "FractalMaps$Search" = some m.cls := findClass_of_methodNamed B.named
  subst hsz
  have hD := hD0.self (sz := s.heap.size)
  generalize hAe : va_A ws0 s.heap.size = A at hD ⊢
  have hA : ∀ q : Nat, s.heap.size ≤ q → A q := fun q h => by rw [← hAe]; exact Or.inr h
  have hS : va_S A s.heap s.heap [] := va_S.rf
  have hw : ∀ (j : Nat), j ∉ ([8, 7, 9, 10, 11, 12, 13] : List Nat) → ws0[j]? = ws0[j]? := fun _ _ => rfl
  have hl := lv_entry ([.ref aS, .int x1, .int x2, .int x3]) (n := 8) (Nat.le_of_ble_eq_true rfl)
  rw [lg_entry_eq]
  generalize (lg_sl ([.ref aS, .int x1, .int x2, .int x3]) ++ List.replicate (8 - (lg_sl ([.ref aS, .int x1, .int x2, .int x3])).length) Slot.unset).toArray = ls at hl ⊢
  have hl : lv_has ls 8 [(0, .ref aS), (1, .int x1), (2, .int x2), (3, .int x3)] := hl
  unfold f_S_findBest at hf
  refine lv_aload_n hx hb d_S_findBest_0 rfl (lv_at hl 0 rfl) ?_
  refine lv_iload_n hx hb d_S_findBest_1 rfl (lv_at hl 1 rfl) ?_
  refine lv_iload_n hx hb d_S_findBest_2 rfl (lv_at hl 2 rfl) ?_
  refine lv_iload_n hx hb d_S_findBest_3 rfl (lv_at hl 3 rfl) ?_
  obtain ⟨q333, hc, hf⟩ := z_b hf
  have hFc := z_free hD hS hA
  refine va_callv (va_runV (As := [.int x1, .int x2, .int x3]) (rest := []) ⟨hx, hb, hml, hown, hts⟩ (c_S_takeBlock l dC dI cI cL _ x1 x2 x3 hN_S hN_P hN_PA hN_W hN_R q333 hc) (cw_S_55 hts ⟨Nat.le_of_ble_eq_true rfl, Nat.le_of_ble_eq_true rfl⟩) ⟨zbM, va_recv hK hP (ci := 3) rfl hN_S, (zpM hP hK hZ hD)⟩ rfl rfl hl.1 rfl (lv_room (Nat.le_of_ble_eq_true rfl)) d_S_findBest_4 ⟨Nat.zero_le _, Nat.zero_le _⟩) hS (fun q _ h => hFc q h) hFc (fun ws t H locs ht hvm hu hB hz1 hk1 hS => ?_)
  obtain ⟨hN_S, hN_W, hN_R, hfr⟩ := hu
  obtain ⟨hP, -, hD1⟩ := hB
  rw [ht] at hP
  have hD := hD1.weaken (fun _ _ _ h => hFc _ h)
  have hN_S : ws[8]? = some (aS, .inr (3, [.ref aP, .ref aH, .ref aV, .ref aW, .ref aD, .ref aQ, .ref aR, .ref aE, .int S_tried, .int q333.1, .int q333.2.1, .int q333.2.2.1, .int S_foundSum, .int S_foundSquares])) := hN_S
  have hN_W : ws[9]? = some (aW, .inl (cI, W_n, .inl q333.2.2.2.1)) := hN_W
  have hN_R : ws[12]? = some (aR, .inl (cI, R_n, .inl q333.2.2.2.2)) := hN_R
  have hN_P := (hfr _ (by decide)).trans hN_P
  have hN_PA := (hfr _ (by decide)).trans hN_PA
  have hN_H := (hfr _ (by decide)).trans hN_H
  have hN_HA := (hfr _ (by decide)).trans hN_HA
  have hN_V := (hfr _ (by decide)).trans hN_V
  have hN_D := (hfr _ (by decide)).trans hN_D
  have hN_Q := (hfr _ (by decide)).trans hN_Q
  have hN_E := (hfr _ (by decide)).trans hN_E
  have hw := z_frC (by decide) hw hfr
  refine lv_aload_n hx hb d_S_findBest_7 rfl (lv_at hl 0 rfl) ?_
  refine gf_S_43 (v := .ref aE) hx hb hts hown hK hP hN_S rfl d_S_findBest_8 ?_
  refine lv_iconst (v := 0) hx hb d_S_findBest_11 (by decide) ?_
  refine lv_iconst (v := 0) hx hb d_S_findBest_12 (by decide) ?_
  refine lv_iconst (v := 0) hx hb d_S_findBest_13 (by decide) ?_
  refine lv_iconst (v := 0) hx hb d_S_findBest_14 (by decide) ?_
  refine lv_iconst (v := (-1)) hx hb d_S_findBest_15 (by decide) ?_
  obtain ⟨q334, hc, hf⟩ := z_b hf
  have hFc := z_free hD hS hA
  refine va_callv (va_runV (As := [.int (0 : Int32), .int (0 : Int32), .int (0 : Int32), .int (0 : Int32), .int ((-1) : Int32)]) (rest := []) ⟨hx, hb, hml, hown, hts⟩ (c_T_become l dC dI cI cL _ (0 : Int32) (0 : Int32) (0 : Int32) (0 : Int32) ((-1) : Int32) hN_E q334 hc) (cw_S_59 hts ⟨Nat.le_of_ble_eq_true rfl, Nat.le_of_ble_eq_true rfl⟩) ⟨zbM, va_recv hK hP (ci := 4) rfl hN_E, (zpM hP hK hZ hD)⟩ rfl rfl hl.1 rfl (lv_room (Nat.le_of_ble_eq_true rfl)) d_S_findBest_16 ⟨Nat.zero_le _, Nat.zero_le _⟩) hS (fun q _ h => hFc q h) hFc (fun ws t H locs ht hvm hu hB hz1 hk1 hS => ?_)
  obtain ⟨hN_E, hfr⟩ := hu
  obtain ⟨hP, -, hD1⟩ := hB
  rw [ht] at hP
  have hD := hD1.weaken (fun _ _ _ h => hFc _ h)
  have hN_E : ws[13]? = some (aE, .inr (4, [.int q334.1, .int q334.2.1, .int q334.2.2.1, .int q334.2.2.2.1, .int q334.2.2.2.2])) := hN_E
  have hN_S := (hfr _ (by decide)).trans hN_S
  have hN_P := (hfr _ (by decide)).trans hN_P
  have hN_PA := (hfr _ (by decide)).trans hN_PA
  have hN_H := (hfr _ (by decide)).trans hN_H
  have hN_HA := (hfr _ (by decide)).trans hN_HA
  have hN_V := (hfr _ (by decide)).trans hN_V
  have hN_W := (hfr _ (by decide)).trans hN_W
  have hN_D := (hfr _ (by decide)).trans hN_D
  have hN_Q := (hfr _ (by decide)).trans hN_Q
  have hN_R := (hfr _ (by decide)).trans hN_R
  have hw := z_frC (by decide) hw hfr
  refine lv_aload_n hx hb d_S_findBest_19 rfl (lv_at hl 0 rfl) ?_
  refine gf_S_9 (v := .ref aP) hx hb hts hown hK hP hN_S rfl d_S_findBest_20 ?_
  refine gf_S_63 (v := .int P_side) hx hb hts hown hK hZ hP hN_P rfl d_S_findBest_23 ?_
  refine lv_iload_n hx hb d_S_findBest_26 rfl (lv_at hl 3 rfl) ?_
  obtain ⟨q335, hc, hf⟩ := z_b hf
  refine vp_callSi (z_cr (va_runSN (As := [.int P_side, .int x3]) (rest := []) ⟨hx, hb, hml, hown, hts⟩ (c_F_domainsOf l P_side x3 q335 hc) (cw_S_66 hts hZ ⟨Nat.le_of_ble_eq_true rfl, Nat.le_of_ble_eq_true rfl⟩) ⟨zb0, zp0⟩ rfl rfl hl.1 rfl (lv_room (Nat.le_of_ble_eq_true rfl)) d_S_findBest_27 ⟨Nat.zero_le _, Nat.zero_le _⟩)) (fun r336 hv => ?_)
  have hv := hv.symm
  subst hv
  refine lv_istore (lv' := [(4, .int q335), (0, .ref aS), (1, .int x1), (2, .int x2), (3, .int x3)]) hx hb d_S_findBest_30 hl (by decide) rfl (fun ls hl => ?_)
  refine lv_iconst (v := 0) hx hb d_S_findBest_32 (by decide) ?_
  refine lv_istore (lv' := [(5, .int (0 : Int32)), (4, .int q335), (0, .ref aS), (1, .int x1), (2, .int x2), (3, .int x3)]) hx hb d_S_findBest_33 hl (by decide) rfl (fun ls hl => ?_)
  have lp372 : ∀ (Qx : State → Prop) (n : Nat) (v5_356 : Int32) (S_tried_357 : Int32) (S_foundSum_358 : Int32) (S_foundSquares_359 : Int32) (V_left_360 : Int32) (V_top_361 : Int32) (V_start_362 : Int32) (V_stepAcross_363 : Int32) (V_stepDown_364 : Int32) (D_f_365 : Nat → Int32) (Q_f_366 : Nat → Int32) (E_domain_367 : Int32) (E_turn_368 : Int32) (E_contrast_369 : Int32) (E_offset_370 : Int32) (E_error_371 : Int32) (ws : va_W) (H : Heap) (locs : List Loc) (ls : Array Slot) (q : Int32 × Int32 × Int32 × Int32 × Int32 × Int32 × Int32 × Int32 × Int32 × (Nat → Int32) × (Nat → Int32) × Int32 × Int32 × Int32 × Int32 × Int32) (hf : f_S_findBest_35 x1 x2 x3 q335 q333.1 q333.2.1 q333.2.2.1 H_side HA_n HA_f W_n q333.2.2.2.1 D_n Q_n R_n q333.2.2.2.2 n v5_356 S_tried_357 S_foundSum_358 S_foundSquares_359 V_left_360 V_top_361 V_start_362 V_stepAcross_363 V_stepDown_364 D_f_365 Q_f_366 E_domain_367 E_turn_368 E_contrast_369 E_offset_370 E_error_371 = some q) (hl : lv_has ls 8 [(0, .ref aS), (1, .int x1), (2, .int x2), (3, .int x3), (4, .int q335), (5, .int v5_356)]) (hP : va_P (dC, dI) classes ws H) (hD : va_D A ws) (hS : va_S A s.heap H locs) (hN_S : ws[8]? = some (aS, .inr (3, [.ref aP, .ref aH, .ref aV, .ref aW, .ref aD, .ref aQ, .ref aR, .ref aE, .int S_tried_357, .int q333.1, .int q333.2.1, .int q333.2.2.1, .int S_foundSum_358, .int S_foundSquares_359]))) (hN_P : ws[1]? = some (aP, .inr (1, [.int P_mostSide, .ref aPA, .int P_side]))) (hN_PA : ws[2]? = some (aPA, .inl (cI, PA_n, .inl PA_f))) (hN_H : ws[5]? = some (aH, .inr (1, [.int H_mostSide, .ref aHA, .int H_side]))) (hN_HA : ws[6]? = some (aHA, .inl (cI, HA_n, .inl HA_f))) (hN_V : ws[7]? = some (aV, .inr (2, [.ref aH, .int V_left_360, .int V_top_361, .int V_start_362, .int V_stepAcross_363, .int V_stepDown_364]))) (hN_W : ws[9]? = some (aW, .inl (cI, W_n, .inl q333.2.2.2.1))) (hN_D : ws[10]? = some (aD, .inl (cI, D_n, .inl D_f_365))) (hN_Q : ws[11]? = some (aQ, .inl (cI, Q_n, .inl Q_f_366))) (hN_R : ws[12]? = some (aR, .inl (cI, R_n, .inl q333.2.2.2.2))) (hN_E : ws[13]? = some (aE, .inr (4, [.int E_domain_367, .int E_turn_368, .int E_contrast_369, .int E_offset_370, .int E_error_371]))) (hw : ∀ (j : Nat), j ∉ ([8, 7, 9, 10, 11, 12, 13] : List Nat) → ws[j]? = ws0[j]?) (kt0 : ∀ (ws : va_W) (H : Heap) (locs : List Loc) (ls : Array Slot), lv_has ls 8 [(0, .ref aS), (1, .int x1), (2, .int x2), (3, .int x3), (4, .int q335), (5, .int q.1)] → (va_P (dC, dI) classes ws H) → (va_D A ws) → (va_S A s.heap H locs) → (ws[8]? = some (aS, .inr (3, [.ref aP, .ref aH, .ref aV, .ref aW, .ref aD, .ref aQ, .ref aR, .ref aE, .int q.2.1, .int q333.1, .int q333.2.1, .int q333.2.2.1, .int q.2.2.1, .int q.2.2.2.1]))) → (ws[1]? = some (aP, .inr (1, [.int P_mostSide, .ref aPA, .int P_side]))) → (ws[2]? = some (aPA, .inl (cI, PA_n, .inl PA_f))) → (ws[5]? = some (aH, .inr (1, [.int H_mostSide, .ref aHA, .int H_side]))) → (ws[6]? = some (aHA, .inl (cI, HA_n, .inl HA_f))) → (ws[7]? = some (aV, .inr (2, [.ref aH, .int q.2.2.2.2.1, .int q.2.2.2.2.2.1, .int q.2.2.2.2.2.2.1, .int q.2.2.2.2.2.2.2.1, .int q.2.2.2.2.2.2.2.2.1]))) → (ws[9]? = some (aW, .inl (cI, W_n, .inl q333.2.2.2.1))) → (ws[10]? = some (aD, .inl (cI, D_n, .inl q.2.2.2.2.2.2.2.2.2.1))) → (ws[11]? = some (aQ, .inl (cI, Q_n, .inl q.2.2.2.2.2.2.2.2.2.2.1))) → (ws[12]? = some (aR, .inl (cI, R_n, .inl q333.2.2.2.2))) → (ws[13]? = some (aE, .inr (4, [.int q.2.2.2.2.2.2.2.2.2.2.2.1, .int q.2.2.2.2.2.2.2.2.2.2.2.2.1, .int q.2.2.2.2.2.2.2.2.2.2.2.2.2.1, .int q.2.2.2.2.2.2.2.2.2.2.2.2.2.2.1, .int q.2.2.2.2.2.2.2.2.2.2.2.2.2.2.2]))) → (∀ (j : Nat), j ∉ ([8, 7, 9, 10, 11, 12, 13] : List Nat) → ws[j]? = ws0[j]?) → W p l e (headSpec w_S_findBest rm_S_findBest).room s m ([.ref aS, .int x1, .int x2, .int x3] : List Value).toArray below meth c H locs 0 0 Qx (F0 m 109 ls [])), W p l e (headSpec w_S_findBest rm_S_findBest).room s m ([.ref aS, .int x1, .int x2, .int x3] : List Value).toArray below meth c H locs 0 0 Qx (F0 m 35 ls []) := by
    sorry
  stop
  obtain ⟨q355, hc, hf⟩ := z_b hf
  refine lp372 _ FU (0 : Int32) S_tried S_foundSum S_foundSquares V_left V_top V_start V_stepAcross V_stepDown D_f Q_f q334.1 q334.2.1 q334.2.2.1 q334.2.2.2.1 q334.2.2.2.2 _ _ _ ls q355 hc (lv_sub hl [2, 3, 4, 5, 1, 0] rfl) hP hD hS hN_S hN_P hN_PA hN_H hN_HA hN_V hN_W hN_D hN_Q hN_R hN_E hw (fun ws H locs ls hl hP hD hS hN_S hN_P hN_PA hN_H hN_HA hN_V hN_W hN_D hN_Q hN_R hN_E hw => ?_)
  obtain rfl := Option.some.inj hf
  exact W.vret hx hb hr (fun t ht hW => ⟨⟨ws, rfl, (by dsimp only; exact ⟨hN_S, hN_V, hN_W, hN_D, hN_Q, hN_R, hN_E, hw⟩), by rw [ht]; exact hP, va_K.moved hW.alike hK, hD⟩, hS.F ht⟩) hS.2.2 d_S_findBest_109
