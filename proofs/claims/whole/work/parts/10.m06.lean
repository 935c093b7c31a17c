def f_S_measure_30 (p1 : Int32) (p2 : Int32) (H_side : Int32) (HA_n : Nat) (HA_f : Nat → Int32) (V_left : Int32) (V_top : Int32) (Q_n : Nat) : Nat → Int32 → Int32 → Int32 → (Nat → Int32) → Option (Int32 × Int32 × Int32 × (Nat → Int32))
  | 0, _, _, _, _ => none
  | n + 1, v3, v4, S_foundSum, Q_f => if (4 : Int32) ≤ v4 then (some (v3, v4, S_foundSum, Q_f)) else ((f_F_acrossOf v4).bind (fun q247 => (f_F_downOf v4).bind (fun q249 => (f_G_sum (V_left + (q247 * p2)) (V_top + (q249 * p2)) p2 H_side HA_n HA_f).bind (fun q251 => if v4 < 0 ∨ Q_n ≤ v4.toNatClampNeg then none else (f_S_measure_30 p1 p2 H_side HA_n HA_f V_left V_top Q_n n (if v3 < q251 then q251 else v3) (v4 + 1) (S_foundSum + q251) (upd Q_f v4.toNatClampNeg q251))))))
def f_S_measure_129 (p1 : Int32) (p2 : Int32) (p3 : Int32) (p4 : Int32) (S_size : Int32) (HA_n : Nat) (HA_f : Nat → Int32) (V_start : Int32) (V_stepAcross : Int32) (V_stepDown : Int32) : Nat → Int32 → Int32 → Option (Int32 × Int32)
  | 0, _, _ => none
  | n + 1, v5, S_foundSquares => if S_size ≤ v5 then (some (v5, S_foundSquares)) else ((f_V_sample v5 p4 V_start V_stepAcross V_stepDown HA_n HA_f).bind (fun q265 => f_S_measure_129 p1 p2 p3 p4 S_size HA_n HA_f V_start V_stepAcross V_stepDown n (v5 + 1) (S_foundSquares + (q265 * q265))))
def f_S_measure_117 (p1 : Int32) (p2 : Int32) (p3 : Int32) (S_size : Int32) (HA_n : Nat) (HA_f : Nat → Int32) (V_start : Int32) (V_stepAcross : Int32) (V_stepDown : Int32) : Nat → Int32 → Int32 → Option (Int32 × Int32)
  | 0, _, _ => none
  | n + 1, v4, S_foundSquares => if S_size ≤ v4 then (some (v4, S_foundSquares)) else ((f_S_measure_129 p1 p2 p3 v4 S_size HA_n HA_f V_start V_stepAcross V_stepDown FU (0 : Int32) S_foundSquares).bind (fun q267 => f_S_measure_117 p1 p2 p3 S_size HA_n HA_f V_start V_stepAcross V_stepDown n (v4 + 1) q267.2))
def f_S_measure (x1 : Int32) (S_size : Int32) (S_foundSum : Int32) (S_foundSquares : Int32) (H_side : Int32) (HA_n : Nat) (HA_f : Nat → Int32) (V_left : Int32) (V_top : Int32) (V_start : Int32) (V_stepAcross : Int32) (V_stepDown : Int32) (Q_n : Nat) (Q_f : Nat → Int32) : Option (Int32 × Int32 × Int32 × Int32 × Int32 × Int32 × Int32 × Int32 × (Nat → Int32)) := (f_V_aim S_size x1 (0 : Int32) V_left V_top V_start H_side).bind (fun q246 => (f_S_measure_30 x1 (S_size / (2 : Int32)) H_side HA_n HA_f q246.1 q246.2.1 Q_n FU (0 : Int32) (0 : Int32) (0 : Int32) Q_f).bind (fun q253 => (f_S_measure_117 x1 (S_size / (2 : Int32)) q253.1 S_size HA_n HA_f q246.2.2.1 q246.2.2.2.1 q246.2.2.2.2 FU (0 : Int32) (0 : Int32)).bind (fun q273 => some (q253.1, q253.2.2.1, q273.2, q246.1, q246.2.1, q246.2.2.1, q246.2.2.2.1, q246.2.2.2.2, q253.2.2.2))))
set_option maxHeartbeats 4000000 in
set_option maxRecDepth 100000 in
theorem c_S_measure (l : Launch) (dC : Nat → ClassId) (dI : Nat → Nat → Nat) (cI cL : ClassId) {ws0 : va_W} (sz : Nat) {aS aP aH aV aW aD aQ aR aE aHA : Nat} {S_tried S_size S_count S_wantedSum S_foundSum S_foundSquares H_mostSide H_side V_left V_top V_start V_stepAcross V_stepDown : Int32} {HA_n Q_n : Nat} {HA_f Q_f : Nat → Int32} (x1 : Int32) (hN_S : ws0[8]? = some (aS, .inr (3, [.ref aP, .ref aH, .ref aV, .ref aW, .ref aD, .ref aQ, .ref aR, .ref aE, .int S_tried, .int S_size, .int S_count, .int S_wantedSum, .int S_foundSum, .int S_foundSquares]))) (hN_H : ws0[5]? = some (aH, .inr (1, [.int H_mostSide, .ref aHA, .int H_side]))) (hN_HA : ws0[6]? = some (aHA, .inl (cI, HA_n, .inl HA_f))) (hN_V : ws0[7]? = some (aV, .inr (2, [.ref aH, .int V_left, .int V_top, .int V_start, .int V_stepAcross, .int V_stepDown]))) (hN_Q : ws0[11]? = some (aQ, .inl (cI, Q_n, .inl Q_f))) (r : Int32 × Int32 × Int32 × Int32 × Int32 × Int32 × Int32 × Int32 × (Nat → Int32)) (hf : f_S_measure x1 S_size S_foundSum S_foundSquares H_side HA_n HA_f V_left V_top V_start V_stepAcross V_stepDown Q_n Q_f = some r) : Met l y_S_measure w_S_measure rm_S_measure (va_Pc [.ref aS, .int x1] (zM dC dI cI cL ws0 sz)) (va_Qi (fun (v : Int32) (ws' : va_W) => v = r.1 ∧ ws'[8]? = some (aS, .inr (3, [.ref aP, .ref aH, .ref aV, .ref aW, .ref aD, .ref aQ, .ref aR, .ref aE, .int S_tried, .int S_size, .int S_count, .int S_wantedSum, .int r.2.1, .int r.2.2.1])) ∧ ws'[7]? = some (aV, .inr (2, [.ref aH, .int r.2.2.2.1, .int r.2.2.2.2.1, .int r.2.2.2.2.2.1, .int r.2.2.2.2.2.2.1, .int r.2.2.2.2.2.2.2.1])) ∧ ws'[11]? = some (aQ, .inl (cI, Q_n, .inl r.2.2.2.2.2.2.2.2)) ∧ ∀ (j : Nat), j ∉ ([8, 7, 11] : List Nat) → ws'[j]? = ws0[j]?) (zQ dC dI cI cL (va_A ws0 sz)) (va_A ws0 sz)) 0 0 (va_A ws0 sz) := by
  refine Met.ofW (cc := b_S_measure) (maxL := 7) (ret := some .int) (by decide) rfl ?_
  intro p e s m args below meth c s₁ B hml hv
  obtain ⟨rfl, hsz, hP, hK, hZ, hD0⟩ := hv
  have hx := B.exec
  have hb := B.bytes
  have hr := B.returns
  have hlocks := B.notSynchronized
  have hts : ∀ w ∈ BIG, w.before ([.ref aS, .int x1] : List Value).toArray s = true := fun w h => atoms_spec (ws := w_S_measure) B.pre w (List.mem_cons_of_mem _ h)
  have hown : s.vm.findClass "FractalMaps$Search" = some m.cls := findClass_of_methodNamed B.named
  subst hsz
  have hD := hD0.self (sz := s.heap.size)
  generalize hAe : va_A ws0 s.heap.size = A at hD ⊢
  have hA : ∀ q : Nat, s.heap.size ≤ q → A q := fun q h => by rw [← hAe]; exact Or.inr h
  have hS : va_S A s.heap s.heap [] := va_S.rf
  have hw : ∀ (j : Nat), j ∉ ([8, 7, 11] : List Nat) → ws0[j]? = ws0[j]? := fun _ _ => rfl
  have hl := lv_entry ([.ref aS, .int x1]) (n := 7) (Nat.le_of_ble_eq_true rfl)
  rw [lg_entry_eq]
  generalize (lg_sl ([.ref aS, .int x1]) ++ List.replicate (7 - (lg_sl ([.ref aS, .int x1])).length) Slot.unset).toArray = ls at hl ⊢
  have hl : lv_has ls 7 [(0, .ref aS), (1, .int x1)] := hl
  unfold f_S_measure at hf
  refine lv_aload_n hx hb d_S_measure_0 rfl (lv_at hl 0 rfl) ?_
  refine gf_S_18 (v := .ref aV) hx hb hts hown hK hP hN_S rfl d_S_measure_1 ?_
  refine lv_aload_n hx hb d_S_measure_4 rfl (lv_at hl 0 rfl) ?_
  refine gf_S_78 (v := .int S_size) hx hb hts hown hK hP hN_S rfl d_S_measure_5 ?_
  refine lv_iload_n hx hb d_S_measure_8 rfl (lv_at hl 1 rfl) ?_
  refine lv_iconst (v := 0) hx hb d_S_measure_9 (by decide) ?_
  obtain ⟨q246, hc, hf⟩ := z_b hf
  have hFc := z_free hD hS hA
  refine va_callv (va_runV (As := [.int S_size, .int x1, .int (0 : Int32)]) (rest := []) ⟨hx, hb, hml, hown, hts⟩ (c_V_aim l dC dI cI cL _ S_size x1 (0 : Int32) hN_V hN_H q246 hc) (cw_S_107 hts ⟨Nat.le_of_ble_eq_true rfl, Nat.le_of_ble_eq_true rfl⟩) ⟨zbM, va_recv hK hP (ci := 2) rfl hN_V, (zpM hP hK hZ hD)⟩ rfl rfl hl.1 rfl (lv_room (Nat.le_of_ble_eq_true rfl)) d_S_measure_10 ⟨Nat.zero_le _, Nat.zero_le _⟩) hS (fun q _ h => hFc q h) hFc (fun ws t H locs ht hvm hu hB hz1 hk1 hS => ?_)
  obtain ⟨hN_V, hfr⟩ := hu
  obtain ⟨hP, -, hD1⟩ := hB
  rw [ht] at hP
  have hD := hD1.weaken (fun _ _ _ h => hFc _ h)
  have hN_V : ws[7]? = some (aV, .inr (2, [.ref aH, .int q246.1, .int q246.2.1, .int q246.2.2.1, .int q246.2.2.2.1, .int q246.2.2.2.2])) := hN_V
  have hN_S := (hfr _ (by decide)).trans hN_S
  have hN_H := (hfr _ (by decide)).trans hN_H
  have hN_HA := (hfr _ (by decide)).trans hN_HA
  have hN_Q := (hfr _ (by decide)).trans hN_Q
  have hw := z_frC (by decide) hw hfr
  refine lv_aload_n hx hb d_S_measure_13 rfl (lv_at hl 0 rfl) ?_
  refine gf_S_78 (v := .int S_size) hx hb hts hown hK hP hN_S rfl d_S_measure_14 ?_
  refine lv_iconst (v := 2) hx hb d_S_measure_17 (by decide) ?_
  refine lv_idiv hx hb d_S_measure_18 (by decide) ?_
  refine lv_istore_n (lv' := [(2, .int (S_size / (2 : Int32))), (0, .ref aS), (1, .int x1)]) hx hb d_S_measure_19 rfl hl (by decide) rfl (fun ls hl => ?_)
  refine lv_iconst (v := 0) hx hb d_S_measure_20 (by decide) ?_
  refine lv_istore_n (lv' := [(3, .int (0 : Int32)), (2, .int (S_size / (2 : Int32))), (0, .ref aS), (1, .int x1)]) hx hb d_S_measure_21 rfl hl (by decide) rfl (fun ls hl => ?_)
  refine lv_aload_n hx hb d_S_measure_22 rfl (lv_at hl 2 rfl) ?_
  refine lv_iconst (v := 0) hx hb d_S_measure_23 (by decide) ?_
  refine pf_S_110 (v := .int (0 : Int32)) hx hb hts hown hK hP hD hS hN_S rfl rfl (Nat.le_of_ble_eq_true rfl) d_S_measure_24 (fun ws H locs hP hD hS hN_S hfr => ?_)
  have hN_S : ws[8]? = some (aS, .inr (3, [.ref aP, .ref aH, .ref aV, .ref aW, .ref aD, .ref aQ, .ref aR, .ref aE, .int S_tried, .int S_size, .int S_count, .int S_wantedSum, .int (0 : Int32), .int S_foundSquares])) := hN_S
  have hN_H := (hfr _ (by decide)).trans hN_H
  have hN_HA := (hfr _ (by decide)).trans hN_HA
  have hN_V := (hfr _ (by decide)).trans hN_V
  have hN_Q := (hfr _ (by decide)).trans hN_Q
  have hw := z_fr (by decide) hw hfr
  refine lv_iconst (v := 0) hx hb d_S_measure_27 (by decide) ?_
  refine lv_istore (lv' := [(4, .int (0 : Int32)), (3, .int (0 : Int32)), (2, .int (S_size / (2 : Int32))), (0, .ref aS), (1, .int x1)]) hx hb d_S_measure_28 hl (by decide) rfl (fun ls hl => ?_)
  have lp258 : ∀ (Qx : State → Prop) (n : Nat) (v3_254 : Int32) (v4_255 : Int32) (S_foundSum_256 : Int32) (Q_f_257 : Nat → Int32) (ws : va_W) (H : Heap) (locs : List Loc) (ls : Array Slot) (q : Int32 × Int32 × Int32 × (Nat → Int32)) (hf : f_S_measure_30 x1 (S_size / (2 : Int32)) H_side HA_n HA_f q246.1 q246.2.1 Q_n n v3_254 v4_255 S_foundSum_256 Q_f_257 = some q) (hl : lv_has ls 7 [(0, .ref aS), (1, .int x1), (2, .int (S_size / (2 : Int32))), (3, .int v3_254), (4, .int v4_255)]) (hP : va_P (dC, dI) classes ws H) (hD : va_D A ws) (hS : va_S A s.heap H locs) (hN_S : ws[8]? = some (aS, .inr (3, [.ref aP, .ref aH, .ref aV, .ref aW, .ref aD, .ref aQ, .ref aR, .ref aE, .int S_tried, .int S_size, .int S_count, .int S_wantedSum, .int S_foundSum_256, .int S_foundSquares]))) (hN_H : ws[5]? = some (aH, .inr (1, [.int H_mostSide, .ref aHA, .int H_side]))) (hN_HA : ws[6]? = some (aHA, .inl (cI, HA_n, .inl HA_f))) (hN_V : ws[7]? = some (aV, .inr (2, [.ref aH, .int q246.1, .int q246.2.1, .int q246.2.2.1, .int q246.2.2.2.1, .int q246.2.2.2.2]))) (hN_Q : ws[11]? = some (aQ, .inl (cI, Q_n, .inl Q_f_257))) (hw : ∀ (j : Nat), j ∉ ([8, 7, 11] : List Nat) → ws[j]? = ws0[j]?) (kt0 : ∀ (ws : va_W) (H : Heap) (locs : List Loc) (ls : Array Slot), lv_has ls 7 [(0, .ref aS), (1, .int x1), (2, .int (S_size / (2 : Int32))), (3, .int q.1), (4, .int q.2.1)] → (va_P (dC, dI) classes ws H) → (va_D A ws) → (va_S A s.heap H locs) → (ws[8]? = some (aS, .inr (3, [.ref aP, .ref aH, .ref aV, .ref aW, .ref aD, .ref aQ, .ref aR, .ref aE, .int S_tried, .int S_size, .int S_count, .int S_wantedSum, .int q.2.2.1, .int S_foundSquares]))) → (ws[5]? = some (aH, .inr (1, [.int H_mostSide, .ref aHA, .int H_side]))) → (ws[6]? = some (aHA, .inl (cI, HA_n, .inl HA_f))) → (ws[7]? = some (aV, .inr (2, [.ref aH, .int q246.1, .int q246.2.1, .int q246.2.2.1, .int q246.2.2.2.1, .int q246.2.2.2.2]))) → (ws[11]? = some (aQ, .inl (cI, Q_n, .inl q.2.2.2))) → (∀ (j : Nat), j ∉ ([8, 7, 11] : List Nat) → ws[j]? = ws0[j]?) → W p l e (headSpec w_S_measure rm_S_measure).room s m ([.ref aS, .int x1] : List Value).toArray below meth c H locs 0 0 Qx (F0 m 109 ls [])), W p l e (headSpec w_S_measure rm_S_measure).room s m ([.ref aS, .int x1] : List Value).toArray below meth c H locs 0 0 Qx (F0 m 30 ls []) := by
    intro Qx n
    induction n with
    | zero => intro v3_254 v4_255 S_foundSum_256 Q_f_257 ws H locs ls q hf; cases hf
    | succ n ih =>
      intro v3_254 v4_255 S_foundSum_256 Q_f_257 ws H locs ls q hf hl hP hD hS hN_S hN_H hN_HA hN_V hN_Q hw kt0
      rw [f_S_measure_30] at hf
      refine lv_iload hx hb d_S_measure_30 (lv_at hl 4 rfl) ?_
      refine lv_iconst (v := 4) hx hb d_S_measure_32 (by decide) ?_
      refine lv_icmp_ge (tgt := 109) hx hb d_S_measure_33 (by decide) (fun hc => ?_) (fun hc => ?_)
      · have hf := z_t hc hf
        obtain rfl := Option.some.inj hf
        exact kt0 _ _ _ ls (lv_sub hl [0, 1, 2, 3, 4] rfl) hP hD hS hN_S hN_H hN_HA hN_V hN_Q hw
      · have hf := z_f hc hf
        refine lv_aload_n hx hb d_S_measure_36 rfl (lv_at hl 0 rfl) ?_
        refine gf_S_15 (v := .ref aH) hx hb hts hown hK hP hN_S rfl d_S_measure_37 ?_
        refine lv_aload_n hx hb d_S_measure_40 rfl (lv_at hl 0 rfl) ?_
        refine gf_S_18 (v := .ref aV) hx hb hts hown hK hP hN_S rfl d_S_measure_41 ?_
        refine gf_S_113 (v := .int q246.1) hx hb hts hown hK hZ hP hN_V rfl d_S_measure_44 ?_
        refine lv_iload hx hb d_S_measure_47 (lv_at hl 4 rfl) ?_
        obtain ⟨q259, hc, hf⟩ := z_b hf
        refine vp_callSi (z_cr (va_runSN (As := [.int v4_255]) (rest := [.int q246.1, .ref aH]) ⟨hx, hb, hml, hown, hts⟩ (c_F_acrossOf l v4_255 q259 hc) (cw_S_116 hts hZ ⟨Nat.le_of_ble_eq_true rfl, Nat.le_of_ble_eq_true rfl⟩) ⟨zb0, zp0⟩ rfl rfl hl.1 rfl (lv_room (Nat.le_of_ble_eq_true rfl)) d_S_measure_49 ⟨Nat.zero_le _, Nat.zero_le _⟩)) (fun r260 hv => ?_)
        have hv := hv.symm
        subst hv
        refine lv_iload_n hx hb d_S_measure_52 rfl (lv_at hl 2 rfl) ?_
        refine lv_imul hx hb d_S_measure_53 ?_
        refine lv_iadd hx hb d_S_measure_54 ?_
        refine lv_aload_n hx hb d_S_measure_55 rfl (lv_at hl 0 rfl) ?_
        refine gf_S_18 (v := .ref aV) hx hb hts hown hK hP hN_S rfl d_S_measure_56 ?_
        refine gf_S_119 (v := .int q246.2.1) hx hb hts hown hK hZ hP hN_V rfl d_S_measure_59 ?_
        refine lv_iload hx hb d_S_measure_62 (lv_at hl 4 rfl) ?_
        obtain ⟨q261, hc, hf⟩ := z_b hf
        refine vp_callSi (z_cr (va_runSN (As := [.int v4_255]) (rest := [.int q246.2.1, .int (q246.1 + (q259 * (S_size / (2 : Int32)))), .ref aH]) ⟨hx, hb, hml, hown, hts⟩ (c_F_downOf l v4_255 q261 hc) (cw_S_122 hts hZ ⟨Nat.le_of_ble_eq_true rfl, Nat.le_of_ble_eq_true rfl⟩) ⟨zb0, zp0⟩ rfl rfl hl.1 rfl (lv_room (Nat.le_of_ble_eq_true rfl)) d_S_measure_64 ⟨Nat.zero_le _, Nat.zero_le _⟩)) (fun r262 hv => ?_)
        have hv := hv.symm
        subst hv
        refine lv_iload_n hx hb d_S_measure_67 rfl (lv_at hl 2 rfl) ?_
        refine lv_imul hx hb d_S_measure_68 ?_
        refine lv_iadd hx hb d_S_measure_69 ?_
        refine lv_iload_n hx hb d_S_measure_70 rfl (lv_at hl 2 rfl) ?_
        obtain ⟨q263, hc, hf⟩ := z_b hf
        refine vp_callSi (z_cr (va_runV (As := [.int (q246.1 + (q259 * (S_size / (2 : Int32)))), .int (q246.2.1 + (q261 * (S_size / (2 : Int32)))), .int (S_size / (2 : Int32))]) (rest := []) ⟨hx, hb, hml, hown, hts⟩ (c_G_sum l dC dI cI cL (q246.1 + (q259 * (S_size / (2 : Int32)))) (q246.2.1 + (q261 * (S_size / (2 : Int32)))) (S_size / (2 : Int32)) hN_H hN_HA q263 hc) (cw_S_98 hts ⟨Nat.le_of_ble_eq_true rfl, Nat.le_of_ble_eq_true rfl⟩) ⟨zbR, va_recv hK hP (ci := 1) rfl hN_H, (zpR hP hK hZ)⟩ rfl rfl hl.1 rfl (lv_room (Nat.le_of_ble_eq_true rfl)) d_S_measure_71 ⟨Nat.zero_le _, Nat.zero_le _⟩)) (fun r264 hv => ?_)
        have hv := hv.symm
        subst hv
        refine lv_istore (lv' := [(5, .int q263), (0, .ref aS), (1, .int x1), (2, .int (S_size / (2 : Int32))), (3, .int v3_254), (4, .int v4_255)]) hx hb d_S_measure_74 hl (by decide) rfl (fun ls hl => ?_)
        refine lv_aload_n hx hb d_S_measure_76 rfl (lv_at hl 1 rfl) ?_
        refine gf_S_34 (v := .ref aQ) hx hb hts hown hK hP hN_S rfl d_S_measure_77 ?_
        refine lv_iload hx hb d_S_measure_80 (lv_at hl 5 rfl) ?_
        refine lv_iload hx hb d_S_measure_82 (lv_at hl 0 rfl) ?_
        obtain ⟨hin, hf⟩ := z_no hf
        refine z_iast hx hb hK hP hD hS hN_Q rfl hin d_S_measure_84 (fun ws H locs hP hD hS hN_Q hfr => ?_)
        have hN_Q : ws[11]? = some (aQ, .inl (cI, Q_n, .inl (upd Q_f_257 v4_255.toNatClampNeg q263))) := hN_Q
        have hN_S := (hfr _ (by decide)).trans hN_S
        have hN_H := (hfr _ (by decide)).trans hN_H
        have hN_HA := (hfr _ (by decide)).trans hN_HA
        have hN_V := (hfr _ (by decide)).trans hN_V
        have hw := z_fr (by decide) hw hfr
        refine lv_aload_n hx hb d_S_measure_85 rfl (lv_at hl 1 rfl) ?_
        refine lv_dup hx hb d_S_measure_86 rfl ?_
        refine gf_S_110 (v := .int S_foundSum_256) hx hb hts hown hK hP hN_S rfl d_S_measure_87 ?_
        refine lv_iload hx hb d_S_measure_90 (lv_at hl 0 rfl) ?_
        refine lv_iadd hx hb d_S_measure_92 ?_
        refine pf_S_110 (v := .int (S_foundSum_256 + q263)) hx hb hts hown hK hP hD hS hN_S rfl rfl (Nat.le_of_ble_eq_true rfl) d_S_measure_93 (fun ws H locs hP hD hS hN_S hfr => ?_)
        have hN_S : ws[8]? = some (aS, .inr (3, [.ref aP, .ref aH, .ref aV, .ref aW, .ref aD, .ref aQ, .ref aR, .ref aE, .int S_tried, .int S_size, .int S_count, .int S_wantedSum, .int (S_foundSum_256 + q263), .int S_foundSquares])) := hN_S
        have hN_H := (hfr _ (by decide)).trans hN_H
        have hN_HA := (hfr _ (by decide)).trans hN_HA
        have hN_V := (hfr _ (by decide)).trans hN_V
        have hN_Q := (hfr _ (by decide)).trans hN_Q
        have hw := z_fr (by decide) hw hfr
        refine lv_iload_n hx hb d_S_measure_96 rfl (lv_at hl 4 rfl) ?_
        refine lv_iload hx hb d_S_measure_97 (lv_at hl 0 rfl) ?_
        refine mm_S_125 hx hb (hml.trans hl.1.symm) hown hts (Nat.le_of_ble_eq_true rfl) (Nat.le_of_ble_eq_true rfl) (Nat.zero_le _) (Nat.zero_le _) d_S_measure_99 ?_
        refine lv_istore_n (lv' := [(3, .int (if v3_254 < q263 then q263 else v3_254)), (5, .int q263), (0, .ref aS), (1, .int x1), (2, .int (S_size / (2 : Int32))), (4, .int v4_255)]) hx hb d_S_measure_102 rfl hl (by decide) rfl (fun ls hl => ?_)
        refine lv_iinc (v := (v4_255 + 1)) (lv' := [(4, .int (v4_255 + 1)), (3, .int (if v3_254 < q263 then q263 else v3_254)), (5, .int q263), (0, .ref aS), (1, .int x1), (2, .int (S_size / (2 : Int32)))]) hx hb d_S_measure_103 hl (k := 5) rfl rfl (by decide) rfl (fun ls hl => ?_)
        refine lv_goto (tgt := 30) hx hb d_S_measure_106 (by decide) ?_
        exact ih (if v3_254 < q263 then q263 else v3_254) (v4_255 + 1) (S_foundSum_256 + q263) (upd Q_f_257 v4_255.toNatClampNeg q263) _ _ _ ls _ hf (lv_sub hl [3, 4, 5, 1, 0] rfl) hP hD hS hN_S hN_H hN_HA hN_V hN_Q hw kt0
  obtain ⟨q253, hc, hf⟩ := z_b hf
  refine lp258 _ FU (0 : Int32) (0 : Int32) (0 : Int32) Q_f _ _ _ ls q253 hc (lv_sub hl [3, 4, 2, 1, 0] rfl) hP hD hS hN_S hN_H hN_HA hN_V hN_Q hw (fun ws H locs ls hl hP hD hS hN_S hN_H hN_HA hN_V hN_Q hw => ?_)
  refine lv_aload_n hx hb d_S_measure_109 rfl (lv_at hl 0 rfl) ?_
  refine lv_iconst (v := 0) hx hb d_S_measure_110 (by decide) ?_
  refine pf_S_128 (v := .int (0 : Int32)) hx hb hts hown hK hP hD hS hN_S rfl rfl (Nat.le_of_ble_eq_true rfl) d_S_measure_111 (fun ws H locs hP hD hS hN_S hfr => ?_)
  have hN_S : ws[8]? = some (aS, .inr (3, [.ref aP, .ref aH, .ref aV, .ref aW, .ref aD, .ref aQ, .ref aR, .ref aE, .int S_tried, .int S_size, .int S_count, .int S_wantedSum, .int q253.2.2.1, .int (0 : Int32)])) := hN_S
  have hN_H := (hfr _ (by decide)).trans hN_H
  have hN_HA := (hfr _ (by decide)).trans hN_HA
  have hN_V := (hfr _ (by decide)).trans hN_V
  have hN_Q := (hfr _ (by decide)).trans hN_Q
  have hw := z_fr (by decide) hw hfr
  refine lv_iconst (v := 0) hx hb d_S_measure_114 (by decide) ?_
  refine lv_istore (lv' := [(4, .int (0 : Int32)), (0, .ref aS), (1, .int x1), (2, .int (S_size / (2 : Int32))), (3, .int q253.1)]) hx hb d_S_measure_115 hl (by decide) rfl (fun ls hl => ?_)
  have lp276 : ∀ (Qx : State → Prop) (n : Nat) (v4_274 : Int32) (S_foundSquares_275 : Int32) (ws : va_W) (H : Heap) (locs : List Loc) (ls : Array Slot) (q : Int32 × Int32) (hf : f_S_measure_117 x1 (S_size / (2 : Int32)) q253.1 S_size HA_n HA_f q246.2.2.1 q246.2.2.2.1 q246.2.2.2.2 n v4_274 S_foundSquares_275 = some q) (hl : lv_has ls 7 [(0, .ref aS), (1, .int x1), (2, .int (S_size / (2 : Int32))), (3, .int q253.1), (4, .int v4_274)]) (hP : va_P (dC, dI) classes ws H) (hD : va_D A ws) (hS : va_S A s.heap H locs) (hN_S : ws[8]? = some (aS, .inr (3, [.ref aP, .ref aH, .ref aV, .ref aW, .ref aD, .ref aQ, .ref aR, .ref aE, .int S_tried, .int S_size, .int S_count, .int S_wantedSum, .int q253.2.2.1, .int S_foundSquares_275]))) (hN_H : ws[5]? = some (aH, .inr (1, [.int H_mostSide, .ref aHA, .int H_side]))) (hN_HA : ws[6]? = some (aHA, .inl (cI, HA_n, .inl HA_f))) (hN_V : ws[7]? = some (aV, .inr (2, [.ref aH, .int q246.1, .int q246.2.1, .int q246.2.2.1, .int q246.2.2.2.1, .int q246.2.2.2.2]))) (hN_Q : ws[11]? = some (aQ, .inl (cI, Q_n, .inl q253.2.2.2))) (hw : ∀ (j : Nat), j ∉ ([8, 7, 11] : List Nat) → ws[j]? = ws0[j]?) (kt0 : ∀ (ws : va_W) (H : Heap) (locs : List Loc) (ls : Array Slot), lv_has ls 7 [(0, .ref aS), (1, .int x1), (2, .int (S_size / (2 : Int32))), (3, .int q253.1), (4, .int q.1)] → (va_P (dC, dI) classes ws H) → (va_D A ws) → (va_S A s.heap H locs) → (ws[8]? = some (aS, .inr (3, [.ref aP, .ref aH, .ref aV, .ref aW, .ref aD, .ref aQ, .ref aR, .ref aE, .int S_tried, .int S_size, .int S_count, .int S_wantedSum, .int q253.2.2.1, .int q.2]))) → (ws[5]? = some (aH, .inr (1, [.int H_mostSide, .ref aHA, .int H_side]))) → (ws[6]? = some (aHA, .inl (cI, HA_n, .inl HA_f))) → (ws[7]? = some (aV, .inr (2, [.ref aH, .int q246.1, .int q246.2.1, .int q246.2.2.1, .int q246.2.2.2.1, .int q246.2.2.2.2]))) → (ws[11]? = some (aQ, .inl (cI, Q_n, .inl q253.2.2.2))) → (∀ (j : Nat), j ∉ ([8, 7, 11] : List Nat) → ws[j]? = ws0[j]?) → W p l e (headSpec w_S_measure rm_S_measure).room s m ([.ref aS, .int x1] : List Value).toArray below meth c H locs 0 0 Qx (F0 m 177 ls [])), W p l e (headSpec w_S_measure rm_S_measure).room s m ([.ref aS, .int x1] : List Value).toArray below meth c H locs 0 0 Qx (F0 m 117 ls []) := by
    intro Qx n
    induction n with
    | zero => intro v4_274 S_foundSquares_275 ws H locs ls q hf; cases hf
    | succ n ih =>
      intro v4_274 S_foundSquares_275 ws H locs ls q hf hl hP hD hS hN_S hN_H hN_HA hN_V hN_Q hw kt0
      rw [f_S_measure_117] at hf
      refine lv_iload hx hb d_S_measure_117 (lv_at hl 4 rfl) ?_
      refine lv_aload_n hx hb d_S_measure_119 rfl (lv_at hl 0 rfl) ?_
      refine gf_S_78 (v := .int S_size) hx hb hts hown hK hP hN_S rfl d_S_measure_120 ?_
      refine lv_icmp_ge (tgt := 177) hx hb d_S_measure_123 (by decide) (fun hc => ?_) (fun hc => ?_)
      · have hf := z_t hc hf
        obtain rfl := Option.some.inj hf
        exact kt0 _ _ _ ls (lv_sub hl [0, 1, 2, 3, 4] rfl) hP hD hS hN_S hN_H hN_HA hN_V hN_Q hw
      · have hf := z_f hc hf
        refine lv_iconst (v := 0) hx hb d_S_measure_126 (by decide) ?_
        refine lv_istore (lv' := [(5, .int (0 : Int32)), (0, .ref aS), (1, .int x1), (2, .int (S_size / (2 : Int32))), (3, .int q253.1), (4, .int v4_274)]) hx hb d_S_measure_127 hl (by decide) rfl (fun ls hl => ?_)
        have lp280 : ∀ (Qx : State → Prop) (n : Nat) (v5_278 : Int32) (S_foundSquares_279 : Int32) (ws : va_W) (H : Heap) (locs : List Loc) (ls : Array Slot) (q : Int32 × Int32) (hf : f_S_measure_129 x1 (S_size / (2 : Int32)) q253.1 v4_274 S_size HA_n HA_f q246.2.2.1 q246.2.2.2.1 q246.2.2.2.2 n v5_278 S_foundSquares_279 = some q) (hl : lv_has ls 7 [(0, .ref aS), (1, .int x1), (2, .int (S_size / (2 : Int32))), (3, .int q253.1), (4, .int v4_274), (5, .int v5_278)]) (hP : va_P (dC, dI) classes ws H) (hD : va_D A ws) (hS : va_S A s.heap H locs) (hN_S : ws[8]? = some (aS, .inr (3, [.ref aP, .ref aH, .ref aV, .ref aW, .ref aD, .ref aQ, .ref aR, .ref aE, .int S_tried, .int S_size, .int S_count, .int S_wantedSum, .int q253.2.2.1, .int S_foundSquares_279]))) (hN_H : ws[5]? = some (aH, .inr (1, [.int H_mostSide, .ref aHA, .int H_side]))) (hN_HA : ws[6]? = some (aHA, .inl (cI, HA_n, .inl HA_f))) (hN_V : ws[7]? = some (aV, .inr (2, [.ref aH, .int q246.1, .int q246.2.1, .int q246.2.2.1, .int q246.2.2.2.1, .int q246.2.2.2.2]))) (hN_Q : ws[11]? = some (aQ, .inl (cI, Q_n, .inl q253.2.2.2))) (hw : ∀ (j : Nat), j ∉ ([8, 7, 11] : List Nat) → ws[j]? = ws0[j]?) (kt0 : ∀ (ws : va_W) (H : Heap) (locs : List Loc) (ls : Array Slot), lv_has ls 7 [(0, .ref aS), (1, .int x1), (2, .int (S_size / (2 : Int32))), (3, .int q253.1), (4, .int v4_274), (5, .int q.1)] → (va_P (dC, dI) classes ws H) → (va_D A ws) → (va_S A s.heap H locs) → (ws[8]? = some (aS, .inr (3, [.ref aP, .ref aH, .ref aV, .ref aW, .ref aD, .ref aQ, .ref aR, .ref aE, .int S_tried, .int S_size, .int S_count, .int S_wantedSum, .int q253.2.2.1, .int q.2]))) → (ws[5]? = some (aH, .inr (1, [.int H_mostSide, .ref aHA, .int H_side]))) → (ws[6]? = some (aHA, .inl (cI, HA_n, .inl HA_f))) → (ws[7]? = some (aV, .inr (2, [.ref aH, .int q246.1, .int q246.2.1, .int q246.2.2.1, .int q246.2.2.2.1, .int q246.2.2.2.2]))) → (ws[11]? = some (aQ, .inl (cI, Q_n, .inl q253.2.2.2))) → (∀ (j : Nat), j ∉ ([8, 7, 11] : List Nat) → ws[j]? = ws0[j]?) → W p l e (headSpec w_S_measure rm_S_measure).room s m ([.ref aS, .int x1] : List Value).toArray below meth c H locs 0 0 Qx (F0 m 171 ls [])), W p l e (headSpec w_S_measure rm_S_measure).room s m ([.ref aS, .int x1] : List Value).toArray below meth c H locs 0 0 Qx (F0 m 129 ls []) := by
          intro Qx n
          induction n with
          | zero => intro v5_278 S_foundSquares_279 ws H locs ls q hf; cases hf
          | succ n ih =>
            intro v5_278 S_foundSquares_279 ws H locs ls q hf hl hP hD hS hN_S hN_H hN_HA hN_V hN_Q hw kt0
            rw [f_S_measure_129] at hf
            refine lv_iload hx hb d_S_measure_129 (lv_at hl 5 rfl) ?_
            refine lv_aload_n hx hb d_S_measure_131 rfl (lv_at hl 0 rfl) ?_
            refine gf_S_78 (v := .int S_size) hx hb hts hown hK hP hN_S rfl d_S_measure_132 ?_
            refine lv_icmp_ge (tgt := 171) hx hb d_S_measure_135 (by decide) (fun hc => ?_) (fun hc => ?_)
            · have hf := z_t hc hf
              obtain rfl := Option.some.inj hf
              exact kt0 _ _ _ ls (lv_sub hl [0, 1, 2, 3, 4, 5] rfl) hP hD hS hN_S hN_H hN_HA hN_V hN_Q hw
            · have hf := z_f hc hf
              refine lv_aload_n hx hb d_S_measure_138 rfl (lv_at hl 0 rfl) ?_
              refine gf_S_18 (v := .ref aV) hx hb hts hown hK hP hN_S rfl d_S_measure_139 ?_
              refine lv_iload hx hb d_S_measure_142 (lv_at hl 5 rfl) ?_
              refine lv_iload hx hb d_S_measure_144 (lv_at hl 4 rfl) ?_
              obtain ⟨q281, hc, hf⟩ := z_b hf
              refine vp_callSi (z_cr (va_runV (As := [.int v5_278, .int v4_274]) (rest := []) ⟨hx, hb, hml, hown, hts⟩ (c_V_sample l dC dI cI cL v5_278 v4_274 hN_V hN_H hN_HA q281 hc) (cw_S_131 hts ⟨Nat.le_of_ble_eq_true rfl, Nat.le_of_ble_eq_true rfl⟩) ⟨zbR, va_recv hK hP (ci := 2) rfl hN_V, (zpR hP hK hZ)⟩ rfl rfl hl.1 rfl (lv_room (Nat.le_of_ble_eq_true rfl)) d_S_measure_146 ⟨Nat.zero_le _, Nat.zero_le _⟩)) (fun r282 hv => ?_)
              have hv := hv.symm
              subst hv
              refine lv_istore (lv' := [(6, .int q281), (0, .ref aS), (1, .int x1), (2, .int (S_size / (2 : Int32))), (3, .int q253.1), (4, .int v4_274), (5, .int v5_278)]) hx hb d_S_measure_149 hl (by decide) rfl (fun ls hl => ?_)
              refine lv_aload_n hx hb d_S_measure_151 rfl (lv_at hl 1 rfl) ?_
              refine lv_dup hx hb d_S_measure_152 rfl ?_
              refine gf_S_128 (v := .int S_foundSquares_279) hx hb hts hown hK hP hN_S rfl d_S_measure_153 ?_
              refine lv_iload hx hb d_S_measure_156 (lv_at hl 0 rfl) ?_
              refine lv_iload hx hb d_S_measure_158 (lv_at hl 0 rfl) ?_
              refine lv_imul hx hb d_S_measure_160 ?_
              refine lv_iadd hx hb d_S_measure_161 ?_
              refine pf_S_128 (v := .int (S_foundSquares_279 + (q281 * q281))) hx hb hts hown hK hP hD hS hN_S rfl rfl (Nat.le_of_ble_eq_true rfl) d_S_measure_162 (fun ws H locs hP hD hS hN_S hfr => ?_)
              have hN_S : ws[8]? = some (aS, .inr (3, [.ref aP, .ref aH, .ref aV, .ref aW, .ref aD, .ref aQ, .ref aR, .ref aE, .int S_tried, .int S_size, .int S_count, .int S_wantedSum, .int q253.2.2.1, .int (S_foundSquares_279 + (q281 * q281))])) := hN_S
              have hN_H := (hfr _ (by decide)).trans hN_H
              have hN_HA := (hfr _ (by decide)).trans hN_HA
              have hN_V := (hfr _ (by decide)).trans hN_V
              have hN_Q := (hfr _ (by decide)).trans hN_Q
              have hw := z_fr (by decide) hw hfr
              refine lv_iinc (v := (v5_278 + 1)) (lv' := [(5, .int (v5_278 + 1)), (6, .int q281), (0, .ref aS), (1, .int x1), (2, .int (S_size / (2 : Int32))), (3, .int q253.1), (4, .int v4_274)]) hx hb d_S_measure_165 hl (k := 6) rfl rfl (by decide) rfl (fun ls hl => ?_)
              refine lv_goto (tgt := 129) hx hb d_S_measure_168 (by decide) ?_
              exact ih (v5_278 + 1) (S_foundSquares_279 + (q281 * q281)) _ _ _ ls _ hf (lv_sub hl [2, 3, 4, 5, 6, 0] rfl) hP hD hS hN_S hN_H hN_HA hN_V hN_Q hw kt0
        obtain ⟨q277, hc, hf⟩ := z_b hf
        refine lp280 _ FU (0 : Int32) S_foundSquares_275 _ _ _ ls q277 hc (lv_sub hl [1, 2, 3, 4, 5, 0] rfl) hP hD hS hN_S hN_H hN_HA hN_V hN_Q hw (fun ws H locs ls hl hP hD hS hN_S hN_H hN_HA hN_V hN_Q hw => ?_)
        refine lv_iinc (v := (v4_274 + 1)) (lv' := [(4, .int (v4_274 + 1)), (0, .ref aS), (1, .int x1), (2, .int (S_size / (2 : Int32))), (3, .int q253.1), (5, .int q277.1)]) hx hb d_S_measure_171 hl (k := 4) rfl rfl (by decide) rfl (fun ls hl => ?_)
        refine lv_goto (tgt := 117) hx hb d_S_measure_174 (by decide) ?_
        exact ih (v4_274 + 1) q277.2 _ _ _ ls _ hf (lv_sub hl [1, 2, 3, 4, 0] rfl) hP hD hS hN_S hN_H hN_HA hN_V hN_Q hw kt0
  obtain ⟨q273, hc, hf⟩ := z_b hf
  refine lp276 _ FU (0 : Int32) (0 : Int32) _ _ _ ls q273 hc (lv_sub hl [1, 2, 3, 4, 0] rfl) hP hD hS hN_S hN_H hN_HA hN_V hN_Q hw (fun ws H locs ls hl hP hD hS hN_S hN_H hN_HA hN_V hN_Q hw => ?_)
  refine lv_iload_n hx hb d_S_measure_177 rfl (lv_at hl 3 rfl) ?_
  obtain rfl := Option.some.inj hf
  exact W.iret hx hb hr (fun t ht hW => ⟨⟨_, ws, rfl, (by dsimp only; exact ⟨rfl, hN_S, hN_V, hN_Q, hw⟩), by rw [ht]; exact hP, va_K.moved hW.alike hK, hD⟩, hS.F ht⟩) hS.2.2 d_S_measure_178
def f_S_takeDomain_14 (p2 : Int32) (S_size : Int32) (HA_n : Nat) (HA_f : Nat → Int32) (V_start : Int32) (V_stepAcross : Int32) (V_stepDown : Int32) (D_n : Nat) : Nat → Int32 → Int32 → (Nat → Int32) → Option (Int32 × Int32 × (Nat → Int32))
  | 0, _, _, _ => none
  | n + 1, v1, v3, D_f => if S_size ≤ v3 then (some (v1, v3, D_f)) else (if (nI D_n) ≤ v1 then (some (v1, v3, D_f)) else ((f_V_sample v3 p2 V_start V_stepAcross V_stepDown HA_n HA_f).bind (fun q283 => if v1 < 0 ∨ D_n ≤ v1.toNatClampNeg then none else (f_S_takeDomain_14 p2 S_size HA_n HA_f V_start V_stepAcross V_stepDown D_n n (v1 + 1) (v3 + 1) (upd D_f v1.toNatClampNeg q283)))))
def f_S_takeDomain_4 (S_size : Int32) (HA_n : Nat) (HA_f : Nat → Int32) (V_start : Int32) (V_stepAcross : Int32) (V_stepDown : Int32) (D_n : Nat) : Nat → Int32 → Int32 → (Nat → Int32) → Option (Int32 × Int32 × (Nat → Int32))
  | 0, _, _, _ => none
  | n + 1, v1, v2, D_f => if S_size ≤ v2 then (some (v1, v2, D_f)) else ((f_S_takeDomain_14 v2 S_size HA_n HA_f V_start V_stepAcross V_stepDown D_n FU v1 (0 : Int32) D_f).bind (fun q285 => f_S_takeDomain_4 S_size HA_n HA_f V_start V_stepAcross V_stepDown D_n n q285.1 (v2 + 1) q285.2.2))
def f_S_takeDomain (S_size : Int32) (HA_n : Nat) (HA_f : Nat → Int32) (V_start : Int32) (V_stepAcross : Int32) (V_stepDown : Int32) (D_n : Nat) (D_f : Nat → Int32) : Option (Nat → Int32) := (f_S_takeDomain_4 S_size HA_n HA_f V_start V_stepAcross V_stepDown D_n FU (0 : Int32) (0 : Int32) D_f).bind (fun q292 => some q292.2.2)
set_option maxHeartbeats 4000000 in
set_option maxRecDepth 100000 in
theorem c_S_takeDomain (l : Launch) (dC : Nat → ClassId) (dI : Nat → Nat → Nat) (cI cL : ClassId) {ws0 : va_W} (sz : Nat) {aS aP aH aV aW aD aQ aR aE aHA : Nat} {S_tried S_size S_count S_wantedSum S_foundSum S_foundSquares H_mostSide H_side V_left V_top V_start V_stepAcross V_stepDown : Int32} {HA_n D_n : Nat} {HA_f D_f : Nat → Int32} (hN_S : ws0[8]? = some (aS, .inr (3, [.ref aP, .ref aH, .ref aV, .ref aW, .ref aD, .ref aQ, .ref aR, .ref aE, .int S_tried, .int S_size, .int S_count, .int S_wantedSum, .int S_foundSum, .int S_foundSquares]))) (hN_H : ws0[5]? = some (aH, .inr (1, [.int H_mostSide, .ref aHA, .int H_side]))) (hN_HA : ws0[6]? = some (aHA, .inl (cI, HA_n, .inl HA_f))) (hN_V : ws0[7]? = some (aV, .inr (2, [.ref aH, .int V_left, .int V_top, .int V_start, .int V_stepAcross, .int V_stepDown]))) (hN_D : ws0[10]? = some (aD, .inl (cI, D_n, .inl D_f))) (r : Nat → Int32) (hf : f_S_takeDomain S_size HA_n HA_f V_start V_stepAcross V_stepDown D_n D_f = some r) : Met l y_S_takeDomain w_S_takeDomain rm_S_takeDomain (va_Pc [.ref aS] (zM dC dI cI cL ws0 sz)) (va_Qv (fun ws' : va_W => ws'[10]? = some (aD, .inl (cI, D_n, .inl r)) ∧ ∀ (j : Nat), j ∉ ([10] : List Nat) → ws'[j]? = ws0[j]?) (zQ dC dI cI cL (va_A ws0 sz)) (va_A ws0 sz)) 0 0 (va_A ws0 sz) := by
  refine Met.ofW (cc := b_S_takeDomain) (maxL := 4) (ret := none) (by decide) rfl ?_
  intro p e s m args below meth c s₁ B hml hv
  obtain ⟨rfl, hsz, hP, hK, hZ, hD0⟩ := hv
  have hx := B.exec
  have hb := B.bytes
  have hr := B.returns
  have hlocks := B.notSynchronized
  have hts : ∀ w ∈ BIG, w.before ([.ref aS] : List Value).toArray s = true := fun w h => atoms_spec (ws := w_S_takeDomain) B.pre w (List.mem_cons_of_mem _ h)
  have hown : s.vm.findClass "FractalMaps$Search" = some m.cls := findClass_of_methodNamed B.named
  subst hsz
  have hD := hD0.self (sz := s.heap.size)
  generalize hAe : va_A ws0 s.heap.size = A at hD ⊢
  have hA : ∀ q : Nat, s.heap.size ≤ q → A q := fun q h => by rw [← hAe]; exact Or.inr h
  have hS : va_S A s.heap s.heap [] := va_S.rf
  have hw : ∀ (j : Nat), j ∉ ([10] : List Nat) → ws0[j]? = ws0[j]? := fun _ _ => rfl
  have hl := lv_entry ([.ref aS]) (n := 4) (Nat.le_of_ble_eq_true rfl)
  rw [lg_entry_eq]
  generalize (lg_sl ([.ref aS]) ++ List.replicate (4 - (lg_sl ([.ref aS])).length) Slot.unset).toArray = ls at hl ⊢
  have hl : lv_has ls 4 [(0, .ref aS)] := hl
  unfold f_S_takeDomain at hf
  refine lv_iconst (v := 0) hx hb d_S_takeDomain_0 (by decide) ?_
  refine lv_istore_n (lv' := [(1, .int (0 : Int32)), (0, .ref aS)]) hx hb d_S_takeDomain_1 rfl hl (by decide) rfl (fun ls hl => ?_)
  refine lv_iconst (v := 0) hx hb d_S_takeDomain_2 (by decide) ?_
  refine lv_istore_n (lv' := [(2, .int (0 : Int32)), (1, .int (0 : Int32)), (0, .ref aS)]) hx hb d_S_takeDomain_3 rfl hl (by decide) rfl (fun ls hl => ?_)
  have lp296 : ∀ (Qx : State → Prop) (n : Nat) (v1_293 : Int32) (v2_294 : Int32) (D_f_295 : Nat → Int32) (ws : va_W) (H : Heap) (locs : List Loc) (ls : Array Slot) (q : Int32 × Int32 × (Nat → Int32)) (hf : f_S_takeDomain_4 S_size HA_n HA_f V_start V_stepAcross V_stepDown D_n n v1_293 v2_294 D_f_295 = some q) (hl : lv_has ls 4 [(0, .ref aS), (1, .int v1_293), (2, .int v2_294)]) (hP : va_P (dC, dI) classes ws H) (hD : va_D A ws) (hS : va_S A s.heap H locs) (hN_S : ws[8]? = some (aS, .inr (3, [.ref aP, .ref aH, .ref aV, .ref aW, .ref aD, .ref aQ, .ref aR, .ref aE, .int S_tried, .int S_size, .int S_count, .int S_wantedSum, .int S_foundSum, .int S_foundSquares]))) (hN_H : ws[5]? = some (aH, .inr (1, [.int H_mostSide, .ref aHA, .int H_side]))) (hN_HA : ws[6]? = some (aHA, .inl (cI, HA_n, .inl HA_f))) (hN_V : ws[7]? = some (aV, .inr (2, [.ref aH, .int V_left, .int V_top, .int V_start, .int V_stepAcross, .int V_stepDown]))) (hN_D : ws[10]? = some (aD, .inl (cI, D_n, .inl D_f_295))) (hw : ∀ (j : Nat), j ∉ ([10] : List Nat) → ws[j]? = ws0[j]?) (kt0 : ∀ (ws : va_W) (H : Heap) (locs : List Loc) (ls : Array Slot), lv_has ls 4 [(0, .ref aS), (1, .int q.1), (2, .int q.2.1)] → (va_P (dC, dI) classes ws H) → (va_D A ws) → (va_S A s.heap H locs) → (ws[8]? = some (aS, .inr (3, [.ref aP, .ref aH, .ref aV, .ref aW, .ref aD, .ref aQ, .ref aR, .ref aE, .int S_tried, .int S_size, .int S_count, .int S_wantedSum, .int S_foundSum, .int S_foundSquares]))) → (ws[5]? = some (aH, .inr (1, [.int H_mostSide, .ref aHA, .int H_side]))) → (ws[6]? = some (aHA, .inl (cI, HA_n, .inl HA_f))) → (ws[7]? = some (aV, .inr (2, [.ref aH, .int V_left, .int V_top, .int V_start, .int V_stepAcross, .int V_stepDown]))) → (ws[10]? = some (aD, .inl (cI, D_n, .inl q.2.2))) → (∀ (j : Nat), j ∉ ([10] : List Nat) → ws[j]? = ws0[j]?) → W p l e (headSpec w_S_takeDomain rm_S_takeDomain).room s m ([.ref aS] : List Value).toArray below meth c H locs 0 0 Qx (F0 m 61 ls [])), W p l e (headSpec w_S_takeDomain rm_S_takeDomain).room s m ([.ref aS] : List Value).toArray below meth c H locs 0 0 Qx (F0 m 4 ls []) := by
    intro Qx n
    induction n with
    | zero => intro v1_293 v2_294 D_f_295 ws H locs ls q hf; cases hf
    | succ n ih =>
      intro v1_293 v2_294 D_f_295 ws H locs ls q hf hl hP hD hS hN_S hN_H hN_HA hN_V hN_D hw kt0
      rw [f_S_takeDomain_4] at hf
      refine lv_iload_n hx hb d_S_takeDomain_4 rfl (lv_at hl 2 rfl) ?_
      refine lv_aload_n hx hb d_S_takeDomain_5 rfl (lv_at hl 0 rfl) ?_
      refine gf_S_78 (v := .int S_size) hx hb hts hown hK hP hN_S rfl d_S_takeDomain_6 ?_
      refine lv_icmp_ge (tgt := 61) hx hb d_S_takeDomain_9 (by decide) (fun hc => ?_) (fun hc => ?_)
      · have hf := z_t hc hf
        obtain rfl := Option.some.inj hf
        exact kt0 _ _ _ ls (lv_sub hl [0, 1, 2] rfl) hP hD hS hN_S hN_H hN_HA hN_V hN_D hw
      · have hf := z_f hc hf
        refine lv_iconst (v := 0) hx hb d_S_takeDomain_12 (by decide) ?_
        refine lv_istore_n (lv' := [(3, .int (0 : Int32)), (0, .ref aS), (1, .int v1_293), (2, .int v2_294)]) hx hb d_S_takeDomain_13 rfl hl (by decide) rfl (fun ls hl => ?_)
        have lp301 : ∀ (Qx : State → Prop) (n : Nat) (v1_298 : Int32) (v3_299 : Int32) (D_f_300 : Nat → Int32) (ws : va_W) (H : Heap) (locs : List Loc) (ls : Array Slot) (q : Int32 × Int32 × (Nat → Int32)) (hf : f_S_takeDomain_14 v2_294 S_size HA_n HA_f V_start V_stepAcross V_stepDown D_n n v1_298 v3_299 D_f_300 = some q) (hl : lv_has ls 4 [(0, .ref aS), (1, .int v1_298), (2, .int v2_294), (3, .int v3_299)]) (hP : va_P (dC, dI) classes ws H) (hD : va_D A ws) (hS : va_S A s.heap H locs) (hN_S : ws[8]? = some (aS, .inr (3, [.ref aP, .ref aH, .ref aV, .ref aW, .ref aD, .ref aQ, .ref aR, .ref aE, .int S_tried, .int S_size, .int S_count, .int S_wantedSum, .int S_foundSum, .int S_foundSquares]))) (hN_H : ws[5]? = some (aH, .inr (1, [.int H_mostSide, .ref aHA, .int H_side]))) (hN_HA : ws[6]? = some (aHA, .inl (cI, HA_n, .inl HA_f))) (hN_V : ws[7]? = some (aV, .inr (2, [.ref aH, .int V_left, .int V_top, .int V_start, .int V_stepAcross, .int V_stepDown]))) (hN_D : ws[10]? = some (aD, .inl (cI, D_n, .inl D_f_300))) (hw : ∀ (j : Nat), j ∉ ([10] : List Nat) → ws[j]? = ws0[j]?) (kt0 : ∀ (ws : va_W) (H : Heap) (locs : List Loc) (ls : Array Slot), lv_has ls 4 [(0, .ref aS), (1, .int q.1), (2, .int v2_294), (3, .int q.2.1)] → (va_P (dC, dI) classes ws H) → (va_D A ws) → (va_S A s.heap H locs) → (ws[8]? = some (aS, .inr (3, [.ref aP, .ref aH, .ref aV, .ref aW, .ref aD, .ref aQ, .ref aR, .ref aE, .int S_tried, .int S_size, .int S_count, .int S_wantedSum, .int S_foundSum, .int S_foundSquares]))) → (ws[5]? = some (aH, .inr (1, [.int H_mostSide, .ref aHA, .int H_side]))) → (ws[6]? = some (aHA, .inl (cI, HA_n, .inl HA_f))) → (ws[7]? = some (aV, .inr (2, [.ref aH, .int V_left, .int V_top, .int V_start, .int V_stepAcross, .int V_stepDown]))) → (ws[10]? = some (aD, .inl (cI, D_n, .inl q.2.2))) → (∀ (j : Nat), j ∉ ([10] : List Nat) → ws[j]? = ws0[j]?) → W p l e (headSpec w_S_takeDomain rm_S_takeDomain).room s m ([.ref aS] : List Value).toArray below meth c H locs 0 0 Qx (F0 m 55 ls [])), W p l e (headSpec w_S_takeDomain rm_S_takeDomain).room s m ([.ref aS] : List Value).toArray below meth c H locs 0 0 Qx (F0 m 14 ls []) := by
          intro Qx n
          induction n with
          | zero => intro v1_298 v3_299 D_f_300 ws H locs ls q hf; cases hf
          | succ n ih =>
            intro v1_298 v3_299 D_f_300 ws H locs ls q hf hl hP hD hS hN_S hN_H hN_HA hN_V hN_D hw kt0
            rw [f_S_takeDomain_14] at hf
            refine lv_iload_n hx hb d_S_takeDomain_14 rfl (lv_at hl 3 rfl) ?_
            refine lv_aload_n hx hb d_S_takeDomain_15 rfl (lv_at hl 0 rfl) ?_
            refine gf_S_78 (v := .int S_size) hx hb hts hown hK hP hN_S rfl d_S_takeDomain_16 ?_
            refine lv_icmp_ge (tgt := 55) hx hb d_S_takeDomain_19 (by decide) (fun hc => ?_) (fun hc => ?_)
            · have hf := z_t hc hf
              obtain rfl := Option.some.inj hf
              exact kt0 _ _ _ ls (lv_sub hl [0, 1, 2, 3] rfl) hP hD hS hN_S hN_H hN_HA hN_V hN_D hw
            · have hf := z_f hc hf
              refine lv_iload_n hx hb d_S_takeDomain_22 rfl (lv_at hl 1 rfl) ?_
              refine lv_aload_n hx hb d_S_takeDomain_23 rfl (lv_at hl 0 rfl) ?_
              refine gf_S_31 (v := .ref aD) hx hb hts hown hK hP hN_S rfl d_S_takeDomain_24 ?_
              refine va_alen (v := nI D_n) hx hb hK hP _ 0 hN_D rfl rfl d_S_takeDomain_27 ?_
              refine lv_icmp_ge (tgt := 55) hx hb d_S_takeDomain_28 (by decide) (fun hc => ?_) (fun hc => ?_)
              · have hf := z_t hc hf
                obtain rfl := Option.some.inj hf
                exact kt0 _ _ _ ls (lv_sub hl [0, 1, 2, 3] rfl) hP hD hS hN_S hN_H hN_HA hN_V hN_D hw
              · have hf := z_f hc hf
                refine lv_aload_n hx hb d_S_takeDomain_31 rfl (lv_at hl 0 rfl) ?_
                refine gf_S_31 (v := .ref aD) hx hb hts hown hK hP hN_S rfl d_S_takeDomain_32 ?_
                refine lv_iload_n hx hb d_S_takeDomain_35 rfl (lv_at hl 1 rfl) ?_
                refine lv_aload_n hx hb d_S_takeDomain_36 rfl (lv_at hl 0 rfl) ?_
                refine gf_S_18 (v := .ref aV) hx hb hts hown hK hP hN_S rfl d_S_takeDomain_37 ?_
                refine lv_iload_n hx hb d_S_takeDomain_40 rfl (lv_at hl 3 rfl) ?_
                refine lv_iload_n hx hb d_S_takeDomain_41 rfl (lv_at hl 2 rfl) ?_
                obtain ⟨q302, hc, hf⟩ := z_b hf
                refine vp_callSi (z_cr (va_runV (As := [.int v3_299, .int v2_294]) (rest := [.int v1_298, .ref aD]) ⟨hx, hb, hml, hown, hts⟩ (c_V_sample l dC dI cI cL v3_299 v2_294 hN_V hN_H hN_HA q302 hc) (cw_S_131 hts ⟨Nat.le_of_ble_eq_true rfl, Nat.le_of_ble_eq_true rfl⟩) ⟨zbR, va_recv hK hP (ci := 2) rfl hN_V, (zpR hP hK hZ)⟩ rfl rfl hl.1 rfl (lv_room (Nat.le_of_ble_eq_true rfl)) d_S_takeDomain_42 ⟨Nat.zero_le _, Nat.zero_le _⟩)) (fun r303 hv => ?_)
                have hv := hv.symm
                subst hv
                obtain ⟨hin, hf⟩ := z_no hf
                refine z_iast hx hb hK hP hD hS hN_D rfl hin d_S_takeDomain_45 (fun ws H locs hP hD hS hN_D hfr => ?_)
                have hN_D : ws[10]? = some (aD, .inl (cI, D_n, .inl (upd D_f_300 v1_298.toNatClampNeg q302))) := hN_D
                have hN_S := (hfr _ (by decide)).trans hN_S
                have hN_H := (hfr _ (by decide)).trans hN_H
                have hN_HA := (hfr _ (by decide)).trans hN_HA
                have hN_V := (hfr _ (by decide)).trans hN_V
                have hw := z_fr (by decide) hw hfr
                refine lv_iinc (v := (v1_298 + 1)) (lv' := [(1, .int (v1_298 + 1)), (0, .ref aS), (2, .int v2_294), (3, .int v3_299)]) hx hb d_S_takeDomain_46 hl (k := 1) rfl rfl (by decide) rfl (fun ls hl => ?_)
                refine lv_iinc (v := (v3_299 + 1)) (lv' := [(3, .int (v3_299 + 1)), (1, .int (v1_298 + 1)), (0, .ref aS), (2, .int v2_294)]) hx hb d_S_takeDomain_49 hl (k := 3) rfl rfl (by decide) rfl (fun ls hl => ?_)
                refine lv_goto (tgt := 14) hx hb d_S_takeDomain_52 (by decide) ?_
                exact ih (v1_298 + 1) (v3_299 + 1) (upd D_f_300 v1_298.toNatClampNeg q302) _ _ _ ls _ hf (lv_sub hl [2, 1, 3, 0] rfl) hP hD hS hN_S hN_H hN_HA hN_V hN_D hw kt0
        obtain ⟨q297, hc, hf⟩ := z_b hf
        refine lp301 _ FU v1_293 (0 : Int32) D_f_295 _ _ _ ls q297 hc (lv_sub hl [1, 2, 3, 0] rfl) hP hD hS hN_S hN_H hN_HA hN_V hN_D hw (fun ws H locs ls hl hP hD hS hN_S hN_H hN_HA hN_V hN_D hw => ?_)
        refine lv_iinc (v := (v2_294 + 1)) (lv' := [(2, .int (v2_294 + 1)), (0, .ref aS), (1, .int q297.1), (3, .int q297.2.1)]) hx hb d_S_takeDomain_55 hl (k := 2) rfl rfl (by decide) rfl (fun ls hl => ?_)
        refine lv_goto (tgt := 4) hx hb d_S_takeDomain_58 (by decide) ?_
        exact ih q297.1 (v2_294 + 1) q297.2.2 _ _ _ ls _ hf (lv_sub hl [1, 2, 0] rfl) hP hD hS hN_S hN_H hN_HA hN_V hN_D hw kt0
  obtain ⟨q292, hc, hf⟩ := z_b hf
  refine lp296 _ FU (0 : Int32) (0 : Int32) D_f _ _ _ ls q292 hc (lv_sub hl [2, 1, 0] rfl) hP hD hS hN_S hN_H hN_HA hN_V hN_D hw (fun ws H locs ls hl hP hD hS hN_S hN_H hN_HA hN_V hN_D hw => ?_)
  obtain rfl := Option.some.inj hf
  exact W.vret hx hb hr (fun t ht hW => ⟨⟨ws, rfl, ⟨hN_D, hw⟩, by rw [ht]; exact hP, va_K.moved hW.alike hK, hD⟩, hS.F ht⟩) hS.2.2 d_S_takeDomain_61
def f_JM_floorDiv1 (x1 : Int64) (x2 : Int64) : Option (Int64) := if x2 = 0 then none else (if 0 ≤ (lg_cmp (x1 ^^^ x2) (0 : Int64)) then (some (x1 / x2)) else (if (lg_cmp ((x1 / x2) * x2) x1) = 0 then (some (x1 / x2)) else (some ((x1 / x2) - (1 : Int64)))))
set_option maxHeartbeats 4000000 in
set_option maxRecDepth 100000 in
theorem c_JM_floorDiv1 (l : Launch) (x1 : Int64) (x2 : Int64) (r : Int64) (hf : f_JM_floorDiv1 x1 x2 = some r) : Met l y_JM_floorDiv1 w_JM_floorDiv1 rm_JM_floorDiv1 (va_Pc [.long x1, .long x2] (fun _ => True)) (vp_Sl (fun v => v = r)) 0 0 (fun _ => False) := by
  refine va_MetF (cc := b_JM_floorDiv1) (maxL := 6) (ret := some .long) (by decide +kernel) rfl ?_
  intro p e s m args below meth c s₁ B hml hv
  obtain ⟨rfl, -⟩ := hv
  have hx := B.exec
  have hb := B.bytes
  have hr := B.returns
  have hlocks := B.notSynchronized
  have hts : ∀ w ∈ BIG, w.before ([.long x1, .long x2] : List Value).toArray s = true := fun w h => atoms_spec (ws := w_JM_floorDiv1) B.pre w (List.mem_cons_of_mem _ h)
  have hown : s.vm.findClass "java/lang/Math" = some m.cls := findClass_of_methodNamed B.named
  have hl := lv_entry ([.long x1, .long x2]) (n := 6) (Nat.le_of_ble_eq_true rfl)
  rw [lg_entry_eq]
  generalize (lg_sl ([.long x1, .long x2]) ++ List.replicate (6 - (lg_sl ([.long x1, .long x2])).length) Slot.unset).toArray = ls at hl ⊢
  have hl : lv_has ls 6 [(0, .long x1), (2, .long x2)] := hl
  unfold f_JM_floorDiv1 at hf
  refine lv_lload_n hx hb d_JM_floorDiv1_0 rfl (lv_at hl 0 rfl) ?_
  refine lv_lload_n hx hb d_JM_floorDiv1_1 rfl (lv_at hl 1 rfl) ?_
  obtain ⟨hne, hf⟩ := z_no hf
  refine lv_ldiv hx hb d_JM_floorDiv1_2 hne ?_
  refine lv_lstore (lv' := [(4, .long (x1 / x2)), (0, .long x1), (2, .long x2)]) hx hb d_JM_floorDiv1_3 hl (by decide) rfl (fun ls hl => ?_)
  refine lv_lload_n hx hb d_JM_floorDiv1_5 rfl (lv_at hl 1 rfl) ?_
  refine lv_lload_n hx hb d_JM_floorDiv1_6 rfl (lv_at hl 2 rfl) ?_
  refine lv_lxor hx hb d_JM_floorDiv1_7 ?_
  refine lv_lconst (v := 0) hx hb d_JM_floorDiv1_8 (by decide) ?_
  refine W.lcmp hx hb d_JM_floorDiv1_9 ?_
  refine lv_if_ge (tgt := 27) hx hb d_JM_floorDiv1_10 (by decide) (fun hc => ?_) (fun hc => ?_)
  · have hf := z_t hc hf
    refine lv_lload hx hb d_JM_floorDiv1_27 (lv_at hl 0 rfl) ?_
    obtain rfl := Option.some.inj hf
    exact W.lret hx hb hr (fun t ht hW => ⟨_, rfl, rfl, ht⟩) (fun q h => by cases h) d_JM_floorDiv1_29
  · have hf := z_f hc hf
    refine lv_lload hx hb d_JM_floorDiv1_13 (lv_at hl 0 rfl) ?_
    refine lv_lload_n hx hb d_JM_floorDiv1_15 rfl (lv_at hl 2 rfl) ?_
    refine lv_lmul hx hb d_JM_floorDiv1_16 ?_
    refine lv_lload_n hx hb d_JM_floorDiv1_17 rfl (lv_at hl 1 rfl) ?_
    refine W.lcmp hx hb d_JM_floorDiv1_18 ?_
    refine lv_if_eq (tgt := 27) hx hb d_JM_floorDiv1_19 (by decide) (fun hc => ?_) (fun hc => ?_)
    · have hf := z_t hc hf
      refine lv_lload hx hb d_JM_floorDiv1_27 (lv_at hl 0 rfl) ?_
      obtain rfl := Option.some.inj hf
      exact W.lret hx hb hr (fun t ht hW => ⟨_, rfl, rfl, ht⟩) (fun q h => by cases h) d_JM_floorDiv1_29
    · have hf := z_f hc hf
      refine lv_lload hx hb d_JM_floorDiv1_22 (lv_at hl 0 rfl) ?_
      refine lv_lconst (v := 1) hx hb d_JM_floorDiv1_24 (by decide) ?_
      refine lv_lsub hx hb d_JM_floorDiv1_25 ?_
      obtain rfl := Option.some.inj hf
      exact W.lret hx hb hr (fun t ht hW => ⟨_, rfl, rfl, ht⟩) (fun q h => by cases h) d_JM_floorDiv1_26
def f_F_nearest (x1 : Int64) (x2 : Int64) : Option (Int64) := if 0 < (lg_cmp x2 (0 : Int64)) then ((f_JM_floorDiv1 (((2 : Int64) * x1) + x2) ((2 : Int64) * x2)).bind (fun q304 => some q304)) else (some (0 : Int64))
set_option maxHeartbeats 4000000 in
set_option maxRecDepth 100000 in
theorem c_F_nearest (l : Launch) (x1 : Int64) (x2 : Int64) (r : Int64) (hf : f_F_nearest x1 x2 = some r) : Met l y_F_nearest w_F_nearest rm_F_nearest (va_Pc [.long x1, .long x2] (fun _ => True)) (vp_Sl (fun v => v = r)) 0 0 (fun _ => False) := by
  refine Met.ofW (cc := b_F_nearest) (maxL := 4) (ret := some .long) (by decide) rfl ?_
  intro p e s m args below meth c s₁ B hml hv
  obtain ⟨rfl, -⟩ := hv
  have hx := B.exec
  have hb := B.bytes
  have hr := B.returns
  have hlocks := B.notSynchronized
  have hts : ∀ w ∈ BIG, w.before ([.long x1, .long x2] : List Value).toArray s = true := fun w h => atoms_spec (ws := w_F_nearest) B.pre w (List.mem_cons_of_mem _ h)
  have hown : s.vm.findClass "FractalMaps" = some m.cls := findClass_of_methodNamed B.named
  have hl := lv_entry ([.long x1, .long x2]) (n := 4) (Nat.le_of_ble_eq_true rfl)
  rw [lg_entry_eq]
  generalize (lg_sl ([.long x1, .long x2]) ++ List.replicate (4 - (lg_sl ([.long x1, .long x2])).length) Slot.unset).toArray = ls at hl ⊢
  have hl : lv_has ls 4 [(0, .long x1), (2, .long x2)] := hl
  unfold f_F_nearest at hf
  refine lv_lload_n hx hb d_F_nearest_0 rfl (lv_at hl 1 rfl) ?_
  refine lv_lconst (v := 0) hx hb d_F_nearest_1 (by decide) ?_
  refine W.lcmp hx hb d_F_nearest_2 ?_
  refine lv_if_gt (tgt := 10) hx hb d_F_nearest_3 (by decide) (fun hc => ?_) (fun hc => ?_)
  · have hf := z_t hc hf
    refine lv_ldc2 (v := 2) hx hb hown (hts _ lk_F_298) d_F_nearest_10 ?_
    refine lv_lload_n hx hb d_F_nearest_13 rfl (lv_at hl 0 rfl) ?_
    refine lv_lmul hx hb d_F_nearest_14 ?_
    refine lv_lload_n hx hb d_F_nearest_15 rfl (lv_at hl 1 rfl) ?_
    refine lv_ladd hx hb d_F_nearest_16 ?_
    refine lv_ldc2 (v := 2) hx hb hown (hts _ lk_F_298) d_F_nearest_17 ?_
    refine lv_lload_n hx hb d_F_nearest_20 rfl (lv_at hl 1 rfl) ?_
    refine lv_lmul hx hb d_F_nearest_21 ?_
    obtain ⟨q304, hc, hf⟩ := z_b hf
    refine vp_callSl (z_cr (va_runS (As := [.long (((2 : Int64) * x1) + x2), .long ((2 : Int64) * x2)]) (rest := []) ⟨hx, hb, hml, hown, hts⟩ (c_JM_floorDiv1 l (((2 : Int64) * x1) + x2) ((2 : Int64) * x2) q304 hc) (cw_F_300 hts ⟨Nat.le_of_ble_eq_true rfl, Nat.le_of_ble_eq_true rfl⟩) ⟨zb0, zp0⟩ rfl rfl hl.1 rfl (lv_room (Nat.le_of_ble_eq_true rfl)) d_F_nearest_22 ⟨Nat.zero_le _, Nat.zero_le _⟩)) (fun r305 hv => ?_)
    have hv := hv.symm
    subst hv
    obtain rfl := Option.some.inj hf
    exact W.lret hx hb hr (fun t ht hW => ⟨_, rfl, rfl, ht⟩) (fun q h => by cases h) d_F_nearest_25
  · have hf := z_f hc hf
    refine lv_lconst (v := 0) hx hb d_F_nearest_6 (by decide) ?_
    refine lv_goto (tgt := 25) hx hb d_F_nearest_7 (by decide) ?_
    obtain rfl := Option.some.inj hf
    exact W.lret hx hb hr (fun t ht hW => ⟨_, rfl, rfl, ht⟩) (fun q h => by cases h) d_F_nearest_25
