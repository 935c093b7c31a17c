def f_S_takeDomain_14 (p2 : Int32) (S_size : Int32) (HA_n : Nat) (HA_f : Nat → Int32) (V_start : Int32) (V_stepAcross : Int32) (V_stepDown : Int32) (D_n : Nat) : Nat → Int32 → Int32 → (Nat → Int32) → Option (Int32 × Int32 × (Nat → Int32))
  | 0, _, _, _ => none
  | n + 1, v1, v3, D_f => if S_size ≤ v3 then (some (v1, v3, D_f)) else (if (nI D_n) ≤ v1 then (some (v1, v3, D_f)) else ((f_V_sample v3 p2 V_start V_stepAcross V_stepDown HA_n HA_f).bind (fun q283 => if v1 < 0 ∨ D_n ≤ v1.toNatClampNeg then none else (f_S_takeDomain_14 p2 S_size HA_n HA_f V_start V_stepAcross V_stepDown D_n n (v1 + 1) (v3 + 1) (upd D_f v1.toNatClampNeg q283)))))
def f_S_takeDomain_4 (S_size : Int32) (HA_n : Nat) (HA_f : Nat → Int32) (V_start : Int32) (V_stepAcross : Int32) (V_stepDown : Int32) (D_n : Nat) : Nat → Int32 → Int32 → (Nat → Int32) → Option (Int32 × Int32 × (Nat → Int32))
  | 0, _, _, _ => none
  | n + 1, v1, v2, D_f => if S_size ≤ v2 then (some (v1, v2, D_f)) else ((f_S_takeDomain_14 v2 S_size HA_n HA_f V_start V_stepAcross V_stepDown D_n FU v1 (0 : Int32) D_f).bind (fun q285 => f_S_takeDomain_4 S_size HA_n HA_f V_start V_stepAcross V_stepDown D_n n q285.1 (v2 + 1) q285.2.2))
def f_S_takeDomain (S_size : Int32) (HA_n : Nat) (HA_f : Nat → Int32) (V_start : Int32) (V_stepAcross : Int32) (V_stepDown : Int32) (D_n : Nat) (D_f : Nat → Int32) : Option (Nat → Int32) := (f_S_takeDomain_4 S_size HA_n HA_f V_start V_stepAcross V_stepDown D_n FU (0 : Int32) (0 : Int32) D_f).bind (fun q292 => some q292.2.2)
set_option maxHeartbeats 4000000 in
set_option maxRecDepth 100000 in
theorem c_S_takeDomain (l : Launch) (dC : Nat → ClassId) (dI : Nat → Nat → Nat) (cI cL : ClassId) {ws0 : va_W} (sz : Nat) {aS aP aH aV aW aD aQ aR aE aHA : Nat} {S_tried S_size S_count S_wantedSum S_foundSum S_foundSquares H_mostSide H_side V_left V_top V_start V_stepAcross V_stepDown : Int32} {HA_n D_n : Nat} {HA_f D_f : Nat → Int32} (hN_S : zA ws0 8 (aS, .inr (3, [.ref aP, .ref aH, .ref aV, .ref aW, .ref aD, .ref aQ, .ref aR, .ref aE, .int S_tried, .int S_size, .int S_count, .int S_wantedSum, .int S_foundSum, .int S_foundSquares]))) (hN_H : zA ws0 5 (aH, .inr (1, [.int H_mostSide, .ref aHA, .int H_side]))) (hN_HA : zA ws0 6 (aHA, .inl (cI, HA_n, .inl HA_f))) (hN_V : zA ws0 7 (aV, .inr (2, [.ref aH, .int V_left, .int V_top, .int V_start, .int V_stepAcross, .int V_stepDown]))) (hN_D : zA ws0 10 (aD, .inl (cI, D_n, .inl D_f))) (r : Nat → Int32) (hf : f_S_takeDomain S_size HA_n HA_f V_start V_stepAcross V_stepDown D_n D_f = some r) : Met l y_S_takeDomain w_S_takeDomain rm_S_takeDomain (va_Pc [.ref aS] (zM dC dI cI cL ws0 sz)) (va_Qv (fun ws' : va_W => zA ws' 10 (aD, .inl (cI, D_n, .inl r)) ∧ ∀ (j : Nat), j ∉ ([10] : List Nat) → ws'[j]? = ws0[j]?) (zQ dC dI cI cL (va_A ws0 sz)) (va_A ws0 sz)) 0 0 (va_A ws0 sz) := by
  refine Met.ofW (cc := b_S_takeDomain) (maxL := 4) (ret := none) (by decide) rfl ?_
  intro p e s m args below meth c s₁ B hml hv
  obtain ⟨rfl, hsz, hP, hK, hZ, hD0⟩ := hv
  have hx := B.exec
  have hb := B.bytes
  have hr := B.returns
  have hlocks := B.notSynchronized
  have hts : ∀ w ∈ BIG, w.before ([.ref aS] : List Value).toArray s = true := fun w h => atoms_spec (ws := w_S_takeDomain) B.pre w (List.mem_cons_of_mem _ h)
  have hown : s.vm.findClass "FractalMaps$Search" = some m.cls := findClass_of_methodNamed B.named
  subst hsz
  have hD := hD0.self (sz := s.heap.size)
  generalize hAe : va_A ws0 s.heap.size = A at hD ⊢
  have hA : ∀ q : Nat, s.heap.size ≤ q → A q := fun q h => by rw [← hAe]; exact Or.inr h
  have hS : va_S A s.heap s.heap [] := va_S.rf
  have hw : ∀ (j : Nat), j ∉ ([10] : List Nat) → ws0[j]? = ws0[j]? := fun _ _ => rfl
  have hl := lv_entry ([.ref aS]) (n := 4) (Nat.le_of_ble_eq_true rfl)
  rw [lg_entry_eq]
  generalize (lg_sl ([.ref aS]) ++ List.replicate (4 - (lg_sl ([.ref aS])).length) Slot.unset).toArray = ls at hl ⊢
  have hl : lv_has ls 4 [(0, .ref aS)] := hl
  unfold f_S_takeDomain at hf
  refine lv_iconst (v := 0) hx hb d_S_takeDomain_0 (by decide) ?_
  refine lv_istore_n (lv' := [(1, .int (0 : Int32)), (0, .ref aS)]) hx hb d_S_takeDomain_1 rfl hl (by decide) rfl (fun ls hl => ?_)
  refine lv_iconst (v := 0) hx hb d_S_takeDomain_2 (by decide) ?_
  refine lv_istore_n (lv' := [(2, .int (0 : Int32)), (1, .int (0 : Int32)), (0, .ref aS)]) hx hb d_S_takeDomain_3 rfl hl (by decide) rfl (fun ls hl => ?_)
  have lp296 : ∀ (Qx : State → Prop) (n : Nat) (v1_293 : Int32) (v2_294 : Int32) (D_f_295 : Nat → Int32) (ws : va_W) (H : Heap) (locs : List Loc) (ls : Array Slot) (q : Int32 × Int32 × (Nat → Int32)) (hf : f_S_takeDomain_4 S_size HA_n HA_f V_start V_stepAcross V_stepDown D_n n v1_293 v2_294 D_f_295 = some q) (hl : lv_has ls 4 [(0, .ref aS), (1, .int v1_293), (2, .int v2_294)]) (hP : va_P (dC, dI) classes ws H) (hD : va_D A ws) (hS : va_S A s.heap H locs) (hN_S : zA ws 8 (aS, .inr (3, [.ref aP, .ref aH, .ref aV, .ref aW, .ref aD, .ref aQ, .ref aR, .ref aE, .int S_tried, .int S_size, .int S_count, .int S_wantedSum, .int S_foundSum, .int S_foundSquares]))) (hN_H : zA ws 5 (aH, .inr (1, [.int H_mostSide, .ref aHA, .int H_side]))) (hN_HA : zA ws 6 (aHA, .inl (cI, HA_n, .inl HA_f))) (hN_V : zA ws 7 (aV, .inr (2, [.ref aH, .int V_left, .int V_top, .int V_start, .int V_stepAcross, .int V_stepDown]))) (hN_D : zA ws 10 (aD, .inl (cI, D_n, .inl D_f_295))) (hw : ∀ (j : Nat), j ∉ ([10] : List Nat) → ws[j]? = ws0[j]?) (kt0 : ∀ (ws : va_W) (H : Heap) (locs : List Loc) (ls : Array Slot), lv_has ls 4 [(0, .ref aS), (1, .int q.1), (2, .int q.2.1)] → (va_P (dC, dI) classes ws H) → (va_D A ws) → (va_S A s.heap H locs) → (zA ws 8 (aS, .inr (3, [.ref aP, .ref aH, .ref aV, .ref aW, .ref aD, .ref aQ, .ref aR, .ref aE, .int S_tried, .int S_size, .int S_count, .int S_wantedSum, .int S_foundSum, .int S_foundSquares]))) → (zA ws 5 (aH, .inr (1, [.int H_mostSide, .ref aHA, .int H_side]))) → (zA ws 6 (aHA, .inl (cI, HA_n, .inl HA_f))) → (zA ws 7 (aV, .inr (2, [.ref aH, .int V_left, .int V_top, .int V_start, .int V_stepAcross, .int V_stepDown]))) → (zA ws 10 (aD, .inl (cI, D_n, .inl q.2.2))) → (∀ (j : Nat), j ∉ ([10] : List Nat) → ws[j]? = ws0[j]?) → W p l e (headSpec w_S_takeDomain rm_S_takeDomain).room s m ([.ref aS] : List Value).toArray below meth c H locs 0 0 Qx (F0 m 61 ls [])), W p l e (headSpec w_S_takeDomain rm_S_takeDomain).room s m ([.ref aS] : List Value).toArray below meth c H locs 0 0 Qx (F0 m 4 ls []) := by
    intro Qx n
    induction n with
    | zero => intro v1_293 v2_294 D_f_295 ws H locs ls q hf; cases hf
    | succ n ih =>
      intro v1_293 v2_294 D_f_295 ws H locs ls q hf hl hP hD hS hN_S hN_H hN_HA hN_V hN_D hw kt0
      rw [f_S_takeDomain_4] at hf
      refine lv_iload_n hx hb d_S_takeDomain_4 rfl (lv_at hl 2 rfl) ?_
      refine lv_aload_n hx hb d_S_takeDomain_5 rfl (lv_at hl 0 rfl) ?_
      refine gf_S_78 (v := .int S_size) hx hb hts hown hK hP hN_S rfl d_S_takeDomain_6 ?_
      refine lv_icmp_ge (tgt := 61) hx hb d_S_takeDomain_9 (by decide) (fun hc => ?_) (fun hc => ?_)
      · have hf := z_t hc hf
        obtain rfl := Option.some.inj hf
        exact kt0 _ _ _ ls (lv_sub hl [0, 1, 2] rfl) hP hD hS hN_S hN_H hN_HA hN_V hN_D hw
      · have hf := z_f hc hf
        refine lv_iconst (v := 0) hx hb d_S_takeDomain_12 (by decide) ?_
        refine lv_istore_n (lv' := [(3, .int (0 : Int32)), (0, .ref aS), (1, .int v1_293), (2, .int v2_294)]) hx hb d_S_takeDomain_13 rfl hl (by decide) rfl (fun ls hl => ?_)
        have lp301 : ∀ (Qx : State → Prop) (n : Nat) (v1_298 : Int32) (v3_299 : Int32) (D_f_300 : Nat → Int32) (ws : va_W) (H : Heap) (locs : List Loc) (ls : Array Slot) (q : Int32 × Int32 × (Nat → Int32)) (hf : f_S_takeDomain_14 v2_294 S_size HA_n HA_f V_start V_stepAcross V_stepDown D_n n v1_298 v3_299 D_f_300 = some q) (hl : lv_has ls 4 [(0, .ref aS), (1, .int v1_298), (2, .int v2_294), (3, .int v3_299)]) (hP : va_P (dC, dI) classes ws H) (hD : va_D A ws) (hS : va_S A s.heap H locs) (hN_S : zA ws 8 (aS, .inr (3, [.ref aP, .ref aH, .ref aV, .ref aW, .ref aD, .ref aQ, .ref aR, .ref aE, .int S_tried, .int S_size, .int S_count, .int S_wantedSum, .int S_foundSum, .int S_foundSquares]))) (hN_H : zA ws 5 (aH, .inr (1, [.int H_mostSide, .ref aHA, .int H_side]))) (hN_HA : zA ws 6 (aHA, .inl (cI, HA_n, .inl HA_f))) (hN_V : zA ws 7 (aV, .inr (2, [.ref aH, .int V_left, .int V_top, .int V_start, .int V_stepAcross, .int V_stepDown]))) (hN_D : zA ws 10 (aD, .inl (cI, D_n, .inl D_f_300))) (hw : ∀ (j : Nat), j ∉ ([10] : List Nat) → ws[j]? = ws0[j]?) (kt0 : ∀ (ws : va_W) (H : Heap) (locs : List Loc) (ls : Array Slot), lv_has ls 4 [(0, .ref aS), (1, .int q.1), (2, .int v2_294), (3, .int q.2.1)] → (va_P (dC, dI) classes ws H) → (va_D A ws) → (va_S A s.heap H locs) → (zA ws 8 (aS, .inr (3, [.ref aP, .ref aH, .ref aV, .ref aW, .ref aD, .ref aQ, .ref aR, .ref aE, .int S_tried, .int S_size, .int S_count, .int S_wantedSum, .int S_foundSum, .int S_foundSquares]))) → (zA ws 5 (aH, .inr (1, [.int H_mostSide, .ref aHA, .int H_side]))) → (zA ws 6 (aHA, .inl (cI, HA_n, .inl HA_f))) → (zA ws 7 (aV, .inr (2, [.ref aH, .int V_left, .int V_top, .int V_start, .int V_stepAcross, .int V_stepDown]))) → (zA ws 10 (aD, .inl (cI, D_n, .inl q.2.2))) → (∀ (j : Nat), j ∉ ([10] : List Nat) → ws[j]? = ws0[j]?) → W p l e (headSpec w_S_takeDomain rm_S_takeDomain).room s m ([.ref aS] : List Value).toArray below meth c H locs 0 0 Qx (F0 m 55 ls [])), W p l e (headSpec w_S_takeDomain rm_S_takeDomain).room s m ([.ref aS] : List Value).toArray below meth c H locs 0 0 Qx (F0 m 14 ls []) := by
          intro Qx n
          induction n with
          | zero => intro v1_298 v3_299 D_f_300 ws H locs ls q hf; cases hf
          | succ n ih =>
            intro v1_298 v3_299 D_f_300 ws H locs ls q hf hl hP hD hS hN_S hN_H hN_HA hN_V hN_D hw kt0
            rw [f_S_takeDomain_14] at hf
            refine lv_iload_n hx hb d_S_takeDomain_14 rfl (lv_at hl 3 rfl) ?_
            refine lv_aload_n hx hb d_S_takeDomain_15 rfl (lv_at hl 0 rfl) ?_
            refine gf_S_78 (v := .int S_size) hx hb hts hown hK hP hN_S rfl d_S_takeDomain_16 ?_
            refine lv_icmp_ge (tgt := 55) hx hb d_S_takeDomain_19 (by decide) (fun hc => ?_) (fun hc => ?_)
            · have hf := z_t hc hf
              obtain rfl := Option.some.inj hf
              exact kt0 _ _ _ ls (lv_sub hl [0, 1, 2, 3] rfl) hP hD hS hN_S hN_H hN_HA hN_V hN_D hw
            · have hf := z_f hc hf
              refine lv_iload_n hx hb d_S_takeDomain_22 rfl (lv_at hl 1 rfl) ?_
              refine lv_aload_n hx hb d_S_takeDomain_23 rfl (lv_at hl 0 rfl) ?_
              refine gf_S_31 (v := .ref aD) hx hb hts hown hK hP hN_S rfl d_S_takeDomain_24 ?_
              refine va_alen (v := nI D_n) hx hb hK hP _ 0 hN_D rfl rfl d_S_takeDomain_27 ?_
              refine lv_icmp_ge (tgt := 55) hx hb d_S_takeDomain_28 (by decide) (fun hc => ?_) (fun hc => ?_)
              · have hf := z_t hc hf
                obtain rfl := Option.some.inj hf
                exact kt0 _ _ _ ls (lv_sub hl [0, 1, 2, 3] rfl) hP hD hS hN_S hN_H hN_HA hN_V hN_D hw
              · have hf := z_f hc hf
                refine lv_aload_n hx hb d_S_takeDomain_31 rfl (lv_at hl 0 rfl) ?_
                refine gf_S_31 (v := .ref aD) hx hb hts hown hK hP hN_S rfl d_S_takeDomain_32 ?_
                refine lv_iload_n hx hb d_S_takeDomain_35 rfl (lv_at hl 1 rfl) ?_
                refine lv_aload_n hx hb d_S_takeDomain_36 rfl (lv_at hl 0 rfl) ?_
                refine gf_S_18 (v := .ref aV) hx hb hts hown hK hP hN_S rfl d_S_takeDomain_37 ?_
                refine lv_iload_n hx hb d_S_takeDomain_40 rfl (lv_at hl 3 rfl) ?_
                refine lv_iload_n hx hb d_S_takeDomain_41 rfl (lv_at hl 2 rfl) ?_
                obtain ⟨q302, hc, hf⟩ := z_b hf
                refine vp_callSi (z_cr (va_runV (As := [.int v3_299, .int v2_294]) (rest := [.int v1_298, .ref aD]) ⟨hx, hb, hml, hown, hts⟩ (c_V_sample l dC dI cI cL v3_299 v2_294 hN_V hN_H hN_HA q302 hc) (cw_S_131 hts ⟨Nat.le_of_ble_eq_true rfl, Nat.le_of_ble_eq_true rfl⟩) ⟨zbR, va_recv hK hP (ci := 2) rfl hN_V, (zpR hP hK hZ)⟩ rfl rfl hl.1 rfl (lv_room (Nat.le_of_ble_eq_true rfl)) d_S_takeDomain_42 ⟨Nat.zero_le _, Nat.zero_le _⟩)) (fun r303 hv => ?_)
                have hv := hv.symm
                subst hv
                obtain ⟨hin, hf⟩ := z_no hf
                refine z_iast hx hb hK hP hD hS hN_D rfl hin d_S_takeDomain_45 (fun ws H locs hP hD hS hN_D hfr => ?_)
                have hN_D : zA ws 10 (aD, .inl (cI, D_n, .inl (upd D_f_300 v1_298.toNatClampNeg q302))) := hN_D
                have hN_S := (hfr _ (by decide)).trans hN_S
                have hN_H := (hfr _ (by decide)).trans hN_H
                have hN_HA := (hfr _ (by decide)).trans hN_HA
                have hN_V := (hfr _ (by decide)).trans hN_V
                have hw := z_fr (by decide) hw hfr
                refine lv_iinc (v := (v1_298 + 1)) (lv' := [(1, .int (v1_298 + 1)), (0, .ref aS), (2, .int v2_294), (3, .int v3_299)]) hx hb d_S_takeDomain_46 hl (k := 1) rfl rfl (by decide) rfl (fun ls hl => ?_)
                refine lv_iinc (v := (v3_299 + 1)) (lv' := [(3, .int (v3_299 + 1)), (1, .int (v1_298 + 1)), (0, .ref aS), (2, .int v2_294)]) hx hb d_S_takeDomain_49 hl (k := 3) rfl rfl (by decide) rfl (fun ls hl => ?_)
                refine lv_goto (tgt := 14) hx hb d_S_takeDomain_52 (by decide) ?_
                exact ih (v1_298 + 1) (v3_299 + 1) (upd D_f_300 v1_298.toNatClampNeg q302) _ _ _ ls _ hf (lv_sub hl [2, 1, 3, 0] rfl) hP hD hS hN_S hN_H hN_HA hN_V hN_D hw kt0
        obtain ⟨q297, hc, hf⟩ := z_b hf
        refine lp301 _ FU v1_293 (0 : Int32) D_f_295 _ _ _ ls q297 hc (lv_sub hl [1, 2, 3, 0] rfl) hP hD hS hN_S hN_H hN_HA hN_V hN_D hw (fun ws H locs ls hl hP hD hS hN_S hN_H hN_HA hN_V hN_D hw => ?_)
        refine lv_iinc (v := (v2_294 + 1)) (lv' := [(2, .int (v2_294 + 1)), (0, .ref aS), (1, .int q297.1), (3, .int q297.2.1)]) hx hb d_S_takeDomain_55 hl (k := 2) rfl rfl (by decide) rfl (fun ls hl => ?_)
        refine lv_goto (tgt := 4) hx hb d_S_takeDomain_58 (by decide) ?_
        exact ih q297.1 (v2_294 + 1) q297.2.2 _ _ _ ls _ hf (lv_sub hl [1, 2, 0] rfl) hP hD hS hN_S hN_H hN_HA hN_V hN_D hw kt0
  obtain ⟨q292, hc, hf⟩ := z_b hf
  refine lp296 _ FU (0 : Int32) (0 : Int32) D_f _ _ _ ls q292 hc (lv_sub hl [2, 1, 0] rfl) hP hD hS hN_S hN_H hN_HA hN_V hN_D hw (fun ws H locs ls hl hP hD hS hN_S hN_H hN_HA hN_V hN_D hw => ?_)
  obtain rfl := Option.some.inj hf
  exact W.vret hx hb hr (fun t ht hW => ⟨⟨ws, rfl, ⟨hN_D, hw⟩, by rw [ht]; exact hP, va_K.moved hW.alike hK, hD⟩, hS.F ht⟩) hS.2.2 d_S_takeDomain_61
def f_JM_floorDiv1 (x1 : Int64) (x2 : Int64) : Option (Int64) := if x2 = 0 then none else (if 0 ≤ (lg_cmp (x1 ^^^ x2) (0 : Int64)) then (some (x1 / x2)) else (if (lg_cmp ((x1 / x2) * x2) x1) = 0 then (some (x1 / x2)) else (some ((x1 / x2) - (1 : Int64)))))
set_option maxHeartbeats 4000000 in
set_option maxRecDepth 100000 in
theorem c_JM_floorDiv1 (l : Launch) (x1 : Int64) (x2 : Int64) (r : Int64) (hf : f_JM_floorDiv1 x1 x2 = some r) : Met l y_JM_floorDiv1 w_JM_floorDiv1 rm_JM_floorDiv1 (va_Pc [.long x1, .long x2] (fun _ => True)) (vp_Sl (fun v => v = r)) 0 0 (fun _ => False) := by
  refine va_MetF (cc := b_JM_floorDiv1) (maxL := 6) (ret := some .long) (by decide +kernel) rfl ?_
  intro p e s m args below meth c s₁ B hml hv
  obtain ⟨rfl, -⟩ := hv
  have hx := B.exec
  have hb := B.bytes
  have hr := B.returns
  have hlocks := B.notSynchronized
  have hts : ∀ w ∈ BIG, w.before ([.long x1, .long x2] : List Value).toArray s = true := fun w h => atoms_spec (ws := w_JM_floorDiv1) B.pre w (List.mem_cons_of_mem _ h)
  have hown : s.vm.findClass "java/lang/Math" = some m.cls := findClass_of_methodNamed B.named
  have hl := lv_entry ([.long x1, .long x2]) (n := 6) (Nat.le_of_ble_eq_true rfl)
  rw [lg_entry_eq]
  generalize (lg_sl ([.long x1, .long x2]) ++ List.replicate (6 - (lg_sl ([.long x1, .long x2])).length) Slot.unset).toArray = ls at hl ⊢
  have hl : lv_has ls 6 [(0, .long x1), (2, .long x2)] := hl
  unfold f_JM_floorDiv1 at hf
  refine lv_lload_n hx hb d_JM_floorDiv1_0 rfl (lv_at hl 0 rfl) ?_
  refine lv_lload_n hx hb d_JM_floorDiv1_1 rfl (lv_at hl 1 rfl) ?_
  obtain ⟨hne, hf⟩ := z_no hf
  refine lv_ldiv hx hb d_JM_floorDiv1_2 hne ?_
  refine lv_lstore (lv' := [(4, .long (x1 / x2)), (0, .long x1), (2, .long x2)]) hx hb d_JM_floorDiv1_3 hl (by decide) rfl (fun ls hl => ?_)
  refine lv_lload_n hx hb d_JM_floorDiv1_5 rfl (lv_at hl 1 rfl) ?_
  refine lv_lload_n hx hb d_JM_floorDiv1_6 rfl (lv_at hl 2 rfl) ?_
  refine lv_lxor hx hb d_JM_floorDiv1_7 ?_
  refine lv_lconst (v := 0) hx hb d_JM_floorDiv1_8 (by decide) ?_
  refine W.lcmp hx hb d_JM_floorDiv1_9 ?_
  refine lv_if_ge (tgt := 27) hx hb d_JM_floorDiv1_10 (by decide) (fun hc => ?_) (fun hc => ?_)
  · have hf := z_t hc hf
    refine lv_lload hx hb d_JM_floorDiv1_27 (lv_at hl 0 rfl) ?_
    obtain rfl := Option.some.inj hf
    exact W.lret hx hb hr (fun t ht hW => ⟨_, rfl, rfl, ht⟩) (fun q h => by cases h) d_JM_floorDiv1_29
  · have hf := z_f hc hf
    refine lv_lload hx hb d_JM_floorDiv1_13 (lv_at hl 0 rfl) ?_
    refine lv_lload_n hx hb d_JM_floorDiv1_15 rfl (lv_at hl 2 rfl) ?_
    refine lv_lmul hx hb d_JM_floorDiv1_16 ?_
    refine lv_lload_n hx hb d_JM_floorDiv1_17 rfl (lv_at hl 1 rfl) ?_
    refine W.lcmp hx hb d_JM_floorDiv1_18 ?_
    refine lv_if_eq (tgt := 27) hx hb d_JM_floorDiv1_19 (by decide) (fun hc => ?_) (fun hc => ?_)
    · have hf := z_t hc hf
      refine lv_lload hx hb d_JM_floorDiv1_27 (lv_at hl 0 rfl) ?_
      obtain rfl := Option.some.inj hf
      exact W.lret hx hb hr (fun t ht hW => ⟨_, rfl, rfl, ht⟩) (fun q h => by cases h) d_JM_floorDiv1_29
    · have hf := z_f hc hf
      refine lv_lload hx hb d_JM_floorDiv1_22 (lv_at hl 0 rfl) ?_
      refine lv_lconst (v := 1) hx hb d_JM_floorDiv1_24 (by decide) ?_
      refine lv_lsub hx hb d_JM_floorDiv1_25 ?_
      obtain rfl := Option.some.inj hf
      exact W.lret hx hb hr (fun t ht hW => ⟨_, rfl, rfl, ht⟩) (fun q h => by cases h) d_JM_floorDiv1_26
def f_F_nearest (x1 : Int64) (x2 : Int64) : Option (Int64) := if 0 < (lg_cmp x2 (0 : Int64)) then ((f_JM_floorDiv1 (((2 : Int64) * x1) + x2) ((2 : Int64) * x2)).bind (fun q304 => some q304)) else (some (0 : Int64))
set_option maxHeartbeats 4000000 in
set_option maxRecDepth 100000 in
theorem c_F_nearest (l : Launch) (x1 : Int64) (x2 : Int64) (r : Int64) (hf : f_F_nearest x1 x2 = some r) : Met l y_F_nearest w_F_nearest rm_F_nearest (va_Pc [.long x1, .long x2] (fun _ => True)) (vp_Sl (fun v => v = r)) 0 0 (fun _ => False) := by
  refine Met.ofW (cc := b_F_nearest) (maxL := 4) (ret := some .long) (by decide) rfl ?_
  intro p e s m args below meth c s₁ B hml hv
  obtain ⟨rfl, -⟩ := hv
  have hx := B.exec
  have hb := B.bytes
  have hr := B.returns
  have hlocks := B.notSynchronized
  have hts : ∀ w ∈ BIG, w.before ([.long x1, .long x2] : List Value).toArray s = true := fun w h => atoms_spec (ws := w_F_nearest) B.pre w (List.mem_cons_of_mem _ h)
  have hown : s.vm.findClass "FractalMaps" = some m.cls := findClass_of_methodNamed B.named
  have hl := lv_entry ([.long x1, .long x2]) (n := 4) (Nat.le_of_ble_eq_true rfl)
  rw [lg_entry_eq]
  generalize (lg_sl ([.long x1, .long x2]) ++ List.replicate (4 - (lg_sl ([.long x1, .long x2])).length) Slot.unset).toArray = ls at hl ⊢
  have hl : lv_has ls 4 [(0, .long x1), (2, .long x2)] := hl
  unfold f_F_nearest at hf
  refine lv_lload_n hx hb d_F_nearest_0 rfl (lv_at hl 1 rfl) ?_
  refine lv_lconst (v := 0) hx hb d_F_nearest_1 (by decide) ?_
  refine W.lcmp hx hb d_F_nearest_2 ?_
  refine lv_if_gt (tgt := 10) hx hb d_F_nearest_3 (by decide) (fun hc => ?_) (fun hc => ?_)
  · have hf := z_t hc hf
    refine lv_ldc2 (v := 2) hx hb hown (hts _ lk_F_298) d_F_nearest_10 ?_
    refine lv_lload_n hx hb d_F_nearest_13 rfl (lv_at hl 0 rfl) ?_
    refine lv_lmul hx hb d_F_nearest_14 ?_
    refine lv_lload_n hx hb d_F_nearest_15 rfl (lv_at hl 1 rfl) ?_
    refine lv_ladd hx hb d_F_nearest_16 ?_
    refine lv_ldc2 (v := 2) hx hb hown (hts _ lk_F_298) d_F_nearest_17 ?_
    refine lv_lload_n hx hb d_F_nearest_20 rfl (lv_at hl 1 rfl) ?_
    refine lv_lmul hx hb d_F_nearest_21 ?_
    obtain ⟨q304, hc, hf⟩ := z_b hf
    refine vp_callSl (z_cr (va_runS (As := [.long (((2 : Int64) * x1) + x2), .long ((2 : Int64) * x2)]) (rest := []) ⟨hx, hb, hml, hown, hts⟩ (c_JM_floorDiv1 l (((2 : Int64) * x1) + x2) ((2 : Int64) * x2) q304 hc) (cw_F_300 hts ⟨Nat.le_of_ble_eq_true rfl, Nat.le_of_ble_eq_true rfl⟩) ⟨zb0, zp0⟩ rfl rfl hl.1 rfl (lv_room (Nat.le_of_ble_eq_true rfl)) d_F_nearest_22 ⟨Nat.zero_le _, Nat.zero_le _⟩)) (fun r305 hv => ?_)
    have hv := hv.symm
    subst hv
    obtain rfl := Option.some.inj hf
    exact W.lret hx hb hr (fun t ht hW => ⟨_, rfl, rfl, ht⟩) (fun q h => by cases h) d_F_nearest_25
  · have hf := z_f hc hf
    refine lv_lconst (v := 0) hx hb d_F_nearest_6 (by decide) ?_
    refine lv_goto (tgt := 25) hx hb d_F_nearest_7 (by decide) ?_
    obtain rfl := Option.some.inj hf
    exact W.lret hx hb hr (fun t ht hW => ⟨_, rfl, rfl, ht⟩) (fun q h => by cases h) d_F_nearest_25
def f_S_contrastWanted_37 (p1 : Int64) (S_count : Int32) (W_n : Nat) (W_f : Nat → Int32) (D_n : Nat) (D_f : Nat → Int32) : Nat → Int64 → Int32 → Option (Int64 × Int32)
  | 0, _, _ => none
  | n + 1, v3, v5 => if S_count ≤ v5 then (some (v3, v5)) else (if v5 < 0 ∨ W_n ≤ v5.toNatClampNeg then none else (if v5 < 0 ∨ D_n ≤ v5.toNatClampNeg then none else (f_S_contrastWanted_37 p1 S_count W_n W_f D_n D_f n (v3 + ((W_f v5.toNatClampNeg).toInt64 * (D_f v5.toNatClampNeg).toInt64)) (v5 + 1))))
def f_S_contrastWanted (S_count : Int32) (S_wantedSum : Int32) (S_foundSum : Int32) (S_foundSquares : Int32) (W_n : Nat) (W_f : Nat → Int32) (D_n : Nat) (D_f : Nat → Int32) : Option (Int32) := if 0 < (lg_cmp ((S_count.toInt64 * S_foundSquares.toInt64) - (S_foundSum.toInt64 * S_foundSum.toInt64)) (0 : Int64)) then ((f_S_contrastWanted_37 ((S_count.toInt64 * S_foundSquares.toInt64) - (S_foundSum.toInt64 * S_foundSum.toInt64)) S_count W_n W_f D_n D_f FU (0 : Int64) (0 : Int32)).bind (fun q306 => (f_F_nearest ((8 : Int64) * ((S_count.toInt64 * q306.1) - (S_foundSum.toInt64 * S_wantedSum.toInt64))) ((S_count.toInt64 * S_foundSquares.toInt64) - (S_foundSum.toInt64 * S_foundSum.toInt64))).bind (fun q310 => (f_F_brought q310 (-7 : Int64) (7 : Int64)).bind (fun q312 => some q312.toInt32)))) else (some (0 : Int32))
set_option maxHeartbeats 4000000 in
set_option maxRecDepth 100000 in
theorem c_S_contrastWanted (l : Launch) (dC : Nat → ClassId) (dI : Nat → Nat → Nat) (cI cL : ClassId) {ws : va_W} {aS aP aH aV aW aD aQ aR aE : Nat} {S_tried S_size S_count S_wantedSum S_foundSum S_foundSquares : Int32} {W_n D_n : Nat} {W_f D_f : Nat → Int32} (hN_S : zA ws 8 (aS, .inr (3, [.ref aP, .ref aH, .ref aV, .ref aW, .ref aD, .ref aQ, .ref aR, .ref aE, .int S_tried, .int S_size, .int S_count, .int S_wantedSum, .int S_foundSum, .int S_foundSquares]))) (hN_W : zA ws 9 (aW, .inl (cI, W_n, .inl W_f))) (hN_D : zA ws 10 (aD, .inl (cI, D_n, .inl D_f))) (r : Int32) (hf : f_S_contrastWanted S_count S_wantedSum S_foundSum S_foundSquares W_n W_f D_n D_f = some r) : Met l y_S_contrastWanted w_S_contrastWanted rm_S_contrastWanted (va_Pc [.ref aS] (zR dC dI cI cL ws)) (vp_Si (fun v => v = r)) 0 0 (fun _ => False) := by
  refine Met.ofW (cc := b_S_contrastWanted) (maxL := 7) (ret := some .int) (by decide) rfl ?_
  intro p e s m args below meth c s₁ B hml hv
  obtain ⟨rfl, hP, hK, hZ⟩ := hv
  have hx := B.exec
  have hb := B.bytes
  have hr := B.returns
  have hlocks := B.notSynchronized
  have hts : ∀ w ∈ BIG, w.before ([.ref aS] : List Value).toArray s = true := fun w h => atoms_spec (ws := w_S_contrastWanted) B.pre w (List.mem_cons_of_mem _ h)
  have hown : s.vm.findClass "FractalMaps$Search" = some m.cls := findClass_of_methodNamed B.named
  have hl := lv_entry ([.ref aS]) (n := 7) (Nat.le_of_ble_eq_true rfl)
  rw [lg_entry_eq]
  generalize (lg_sl ([.ref aS]) ++ List.replicate (7 - (lg_sl ([.ref aS])).length) Slot.unset).toArray = ls at hl ⊢
  have hl : lv_has ls 7 [(0, .ref aS)] := hl
  unfold f_S_contrastWanted at hf
  refine lv_aload_n hx hb d_S_contrastWanted_0 rfl (lv_at hl 0 rfl) ?_
  refine gf_S_86 (v := .int S_count) hx hb hts hown hK hP hN_S rfl d_S_contrastWanted_1 ?_
  refine lv_i2l hx hb d_S_contrastWanted_4 rfl ?_
  refine lv_aload_n hx hb d_S_contrastWanted_5 rfl (lv_at hl 0 rfl) ?_
  refine gf_S_128 (v := .int S_foundSquares) hx hb hts hown hK hP hN_S rfl d_S_contrastWanted_6 ?_
  refine lv_i2l hx hb d_S_contrastWanted_9 rfl ?_
  refine lv_lmul hx hb d_S_contrastWanted_10 ?_
  refine lv_aload_n hx hb d_S_contrastWanted_11 rfl (lv_at hl 0 rfl) ?_
  refine gf_S_110 (v := .int S_foundSum) hx hb hts hown hK hP hN_S rfl d_S_contrastWanted_12 ?_
  refine lv_i2l hx hb d_S_contrastWanted_15 rfl ?_
  refine lv_aload_n hx hb d_S_contrastWanted_16 rfl (lv_at hl 0 rfl) ?_
  refine gf_S_110 (v := .int S_foundSum) hx hb hts hown hK hP hN_S rfl d_S_contrastWanted_17 ?_
  refine lv_i2l hx hb d_S_contrastWanted_20 rfl ?_
  refine lv_lmul hx hb d_S_contrastWanted_21 ?_
  refine lv_lsub hx hb d_S_contrastWanted_22 ?_
  refine lv_lstore_n (lv' := [(1, .long ((S_count.toInt64 * S_foundSquares.toInt64) - (S_foundSum.toInt64 * S_foundSum.toInt64))), (0, .ref aS)]) hx hb d_S_contrastWanted_23 rfl hl (by decide) rfl (fun ls hl => ?_)
  refine lv_lload_n hx hb d_S_contrastWanted_24 rfl (lv_at hl 0 rfl) ?_
  refine lv_lconst (v := 0) hx hb d_S_contrastWanted_25 (by decide) ?_
  refine W.lcmp hx hb d_S_contrastWanted_26 ?_
  refine lv_if_gt (tgt := 32) hx hb d_S_contrastWanted_27 (by decide) (fun hc => ?_) (fun hc => ?_)
  · have hf := z_t hc hf
    refine lv_lconst (v := 0) hx hb d_S_contrastWanted_32 (by decide) ?_
    refine lv_lstore_n (lv' := [(3, .long (0 : Int64)), (1, .long ((S_count.toInt64 * S_foundSquares.toInt64) - (S_foundSum.toInt64 * S_foundSum.toInt64))), (0, .ref aS)]) hx hb d_S_contrastWanted_33 rfl hl (by decide) rfl (fun ls hl => ?_)
    refine lv_iconst (v := 0) hx hb d_S_contrastWanted_34 (by decide) ?_
    refine lv_istore (lv' := [(5, .int (0 : Int32)), (3, .long (0 : Int64)), (1, .long ((S_count.toInt64 * S_foundSquares.toInt64) - (S_foundSum.toInt64 * S_foundSum.toInt64))), (0, .ref aS)]) hx hb d_S_contrastWanted_35 hl (by decide) rfl (fun ls hl => ?_)
    have lp309 : ∀ (Qx : State → Prop) (n : Nat) (v3_307 : Int64) (v5_308 : Int32) (ls : Array Slot) (q : Int64 × Int32) (hf : f_S_contrastWanted_37 ((S_count.toInt64 * S_foundSquares.toInt64) - (S_foundSum.toInt64 * S_foundSum.toInt64)) S_count W_n W_f D_n D_f n v3_307 v5_308 = some q) (hl : lv_has ls 7 [(0, .ref aS), (1, .long ((S_count.toInt64 * S_foundSquares.toInt64) - (S_foundSum.toInt64 * S_foundSum.toInt64))), (3, .long v3_307), (5, .int v5_308)]) (kt0 : ∀ (ls : Array Slot), lv_has ls 7 [(0, .ref aS), (1, .long ((S_count.toInt64 * S_foundSquares.toInt64) - (S_foundSum.toInt64 * S_foundSum.toInt64))), (3, .long q.1), (5, .int q.2)] → W p l e (headSpec w_S_contrastWanted rm_S_contrastWanted).room s m ([.ref aS] : List Value).toArray below meth c s.heap [] 0 0 Qx (F0 m 72 ls [])), W p l e (headSpec w_S_contrastWanted rm_S_contrastWanted).room s m ([.ref aS] : List Value).toArray below meth c s.heap [] 0 0 Qx (F0 m 37 ls []) := by
      intro Qx n
      induction n with
      | zero => intro v3_307 v5_308 ls q hf; cases hf
      | succ n ih =>
        intro v3_307 v5_308 ls q hf hl kt0
        rw [f_S_contrastWanted_37] at hf
        refine lv_iload hx hb d_S_contrastWanted_37 (lv_at hl 3 rfl) ?_
        refine lv_aload_n hx hb d_S_contrastWanted_39 rfl (lv_at hl 0 rfl) ?_
        refine gf_S_86 (v := .int S_count) hx hb hts hown hK hP hN_S rfl d_S_contrastWanted_40 ?_
        refine lv_icmp_ge (tgt := 72) hx hb d_S_contrastWanted_43 (by decide) (fun hc => ?_) (fun hc => ?_)
        · have hf := z_t hc hf
          obtain rfl := Option.some.inj hf
          exact kt0 ls (lv_sub hl [0, 1, 2, 3] rfl)
        · have hf := z_f hc hf
          refine lv_lload_n hx hb d_S_contrastWanted_46 rfl (lv_at hl 2 rfl) ?_
          refine lv_aload_n hx hb d_S_contrastWanted_47 rfl (lv_at hl 0 rfl) ?_
          refine gf_S_28 (v := .ref aW) hx hb hts hown hK hP hN_S rfl d_S_contrastWanted_48 ?_
          refine lv_iload hx hb d_S_contrastWanted_51 (lv_at hl 3 rfl) ?_
          obtain ⟨hin, hf⟩ := z_no hf
          refine va_iald hx hb hK hP _ 0 hN_W rfl hin d_S_contrastWanted_53 ?_
          refine lv_i2l hx hb d_S_contrastWanted_54 rfl ?_
          refine lv_aload_n hx hb d_S_contrastWanted_55 rfl (lv_at hl 0 rfl) ?_
          refine gf_S_31 (v := .ref aD) hx hb hts hown hK hP hN_S rfl d_S_contrastWanted_56 ?_
          refine lv_iload hx hb d_S_contrastWanted_59 (lv_at hl 3 rfl) ?_
          obtain ⟨hin, hf⟩ := z_no hf
          refine va_iald hx hb hK hP _ 0 hN_D rfl hin d_S_contrastWanted_61 ?_
          refine lv_i2l hx hb d_S_contrastWanted_62 rfl ?_
          refine lv_lmul hx hb d_S_contrastWanted_63 ?_
          refine lv_ladd hx hb d_S_contrastWanted_64 ?_
          refine lv_lstore_n (lv' := [(3, .long (v3_307 + ((W_f v5_308.toNatClampNeg).toInt64 * (D_f v5_308.toNatClampNeg).toInt64))), (0, .ref aS), (1, .long ((S_count.toInt64 * S_foundSquares.toInt64) - (S_foundSum.toInt64 * S_foundSum.toInt64))), (5, .int v5_308)]) hx hb d_S_contrastWanted_65 rfl hl (by decide) rfl (fun ls hl => ?_)
          refine lv_iinc (v := (v5_308 + 1)) (lv' := [(5, .int (v5_308 + 1)), (3, .long (v3_307 + ((W_f v5_308.toNatClampNeg).toInt64 * (D_f v5_308.toNatClampNeg).toInt64))), (0, .ref aS), (1, .long ((S_count.toInt64 * S_foundSquares.toInt64) - (S_foundSum.toInt64 * S_foundSum.toInt64)))]) hx hb d_S_contrastWanted_66 hl (k := 3) rfl rfl (by decide) rfl (fun ls hl => ?_)
          refine lv_goto (tgt := 37) hx hb d_S_contrastWanted_69 (by decide) ?_
          exact ih (v3_307 + ((W_f v5_308.toNatClampNeg).toInt64 * (D_f v5_308.toNatClampNeg).toInt64)) (v5_308 + 1) ls _ hf (lv_sub hl [2, 3, 1, 0] rfl) kt0
    obtain ⟨q306, hc, hf⟩ := z_b hf
    refine lp309 _ FU (0 : Int64) (0 : Int32) ls q306 hc (lv_sub hl [3, 2, 1, 0] rfl) (fun ls hl => ?_)
    refine lv_aload_n hx hb d_S_contrastWanted_72 rfl (lv_at hl 0 rfl) ?_
    refine gf_S_86 (v := .int S_count) hx hb hts hown hK hP hN_S rfl d_S_contrastWanted_73 ?_
    refine lv_i2l hx hb d_S_contrastWanted_76 rfl ?_
    refine lv_lload_n hx hb d_S_contrastWanted_77 rfl (lv_at hl 2 rfl) ?_
    refine lv_lmul hx hb d_S_contrastWanted_78 ?_
    refine lv_aload_n hx hb d_S_contrastWanted_79 rfl (lv_at hl 0 rfl) ?_
    refine gf_S_110 (v := .int S_foundSum) hx hb hts hown hK hP hN_S rfl d_S_contrastWanted_80 ?_
    refine lv_i2l hx hb d_S_contrastWanted_83 rfl ?_
    refine lv_aload_n hx hb d_S_contrastWanted_84 rfl (lv_at hl 0 rfl) ?_
    refine gf_S_101 (v := .int S_wantedSum) hx hb hts hown hK hP hN_S rfl d_S_contrastWanted_85 ?_
    refine lv_i2l hx hb d_S_contrastWanted_88 rfl ?_
    refine lv_lmul hx hb d_S_contrastWanted_89 ?_
    refine lv_lsub hx hb d_S_contrastWanted_90 ?_
    refine lv_lstore (lv' := [(5, .long ((S_count.toInt64 * q306.1) - (S_foundSum.toInt64 * S_wantedSum.toInt64))), (0, .ref aS), (1, .long ((S_count.toInt64 * S_foundSquares.toInt64) - (S_foundSum.toInt64 * S_foundSum.toInt64))), (3, .long q306.1)]) hx hb d_S_contrastWanted_91 hl (by decide) rfl (fun ls hl => ?_)
    refine lv_ldc2 (v := 8) hx hb hown (hts _ lk_S_149) d_S_contrastWanted_93 ?_
    refine lv_lload hx hb d_S_contrastWanted_96 (lv_at hl 0 rfl) ?_
    refine lv_lmul hx hb d_S_contrastWanted_98 ?_
    refine lv_lload_n hx hb d_S_contrastWanted_99 rfl (lv_at hl 2 rfl) ?_
    obtain ⟨q310, hc, hf⟩ := z_b hf
    refine vp_callSl (z_cr (va_runSN (As := [.long ((8 : Int64) * ((S_count.toInt64 * q306.1) - (S_foundSum.toInt64 * S_wantedSum.toInt64))), .long ((S_count.toInt64 * S_foundSquares.toInt64) - (S_foundSum.toInt64 * S_foundSum.toInt64))]) (rest := []) ⟨hx, hb, hml, hown, hts⟩ (c_F_nearest l ((8 : Int64) * ((S_count.toInt64 * q306.1) - (S_foundSum.toInt64 * S_wantedSum.toInt64))) ((S_count.toInt64 * S_foundSquares.toInt64) - (S_foundSum.toInt64 * S_foundSum.toInt64)) q310 hc) (cw_S_142 hts hZ ⟨Nat.le_of_ble_eq_true rfl, Nat.le_of_ble_eq_true rfl⟩) ⟨zb0, zp0⟩ rfl rfl hl.1 rfl (lv_room (Nat.le_of_ble_eq_true rfl)) d_S_contrastWanted_100 ⟨Nat.zero_le _, Nat.zero_le _⟩)) (fun r311 hv => ?_)
    have hv := hv.symm
    subst hv
    refine lv_ldc2 (v := (-7)) hx hb hown (hts _ lk_S_151) d_S_contrastWanted_103 ?_
    refine lv_ldc2 (v := 7) hx hb hown (hts _ lk_S_153) d_S_contrastWanted_106 ?_
    obtain ⟨q312, hc, hf⟩ := z_b hf
    refine vp_callSl (z_cr (va_runSN (As := [.long q310, .long (-7 : Int64), .long (7 : Int64)]) (rest := []) ⟨hx, hb, hml, hown, hts⟩ (c_F_brought l q310 (-7 : Int64) (7 : Int64) q312 hc) (cw_S_155 hts hZ ⟨Nat.le_of_ble_eq_true rfl, Nat.le_of_ble_eq_true rfl⟩) ⟨zb0, zp0⟩ rfl rfl hl.1 rfl (lv_room (Nat.le_of_ble_eq_true rfl)) d_S_contrastWanted_109 ⟨Nat.zero_le _, Nat.zero_le _⟩)) (fun r313 hv => ?_)
    have hv := hv.symm
    subst hv
    refine lv_l2i hx hb d_S_contrastWanted_112 rfl ?_
    obtain rfl := Option.some.inj hf
    exact W.iret hx hb hr (fun t ht hW => ⟨_, rfl, rfl, ht⟩) (fun q h => by cases h) d_S_contrastWanted_113
  · have hf := z_f hc hf
    refine lv_iconst (v := 0) hx hb d_S_contrastWanted_30 (by decide) ?_
    obtain rfl := Option.some.inj hf
    exact W.iret hx hb hr (fun t ht hW => ⟨_, rfl, rfl, ht⟩) (fun q h => by cases h) d_S_contrastWanted_31
def f_JM_floorDiv0 (x1 : Int32) (x2 : Int32) : Option (Int32) := if x2 = 0 then none else (if 0 ≤ (x1 ^^^ x2) then (some (x1 / x2)) else (if ((x1 / x2) * x2) = x1 then (some (x1 / x2)) else (some ((x1 / x2) - (1 : Int32)))))
set_option maxHeartbeats 4000000 in
set_option maxRecDepth 100000 in
theorem c_JM_floorDiv0 (l : Launch) (x1 : Int32) (x2 : Int32) (r : Int32) (hf : f_JM_floorDiv0 x1 x2 = some r) : Met l y_JM_floorDiv0 w_JM_floorDiv0 rm_JM_floorDiv0 (va_Pc [.int x1, .int x2] (fun _ => True)) (vp_Si (fun v => v = r)) 0 0 (fun _ => False) := by
  refine va_MetF (cc := b_JM_floorDiv0) (maxL := 3) (ret := some .int) (by decide +kernel) rfl ?_
  intro p e s m args below meth c s₁ B hml hv
  obtain ⟨rfl, -⟩ := hv
  have hx := B.exec
  have hb := B.bytes
  have hr := B.returns
  have hlocks := B.notSynchronized
  have hts : ∀ w ∈ BIG, w.before ([.int x1, .int x2] : List Value).toArray s = true := fun w h => atoms_spec (ws := w_JM_floorDiv0) B.pre w (List.mem_cons_of_mem _ h)
  have hown : s.vm.findClass "java/lang/Math" = some m.cls := findClass_of_methodNamed B.named
  have hl := lv_entry ([.int x1, .int x2]) (n := 3) (Nat.le_of_ble_eq_true rfl)
  rw [lg_entry_eq]
  generalize (lg_sl ([.int x1, .int x2]) ++ List.replicate (3 - (lg_sl ([.int x1, .int x2])).length) Slot.unset).toArray = ls at hl ⊢
  have hl : lv_has ls 3 [(0, .int x1), (1, .int x2)] := hl
  unfold f_JM_floorDiv0 at hf
  refine lv_iload_n hx hb d_JM_floorDiv0_0 rfl (lv_at hl 0 rfl) ?_
  refine lv_iload_n hx hb d_JM_floorDiv0_1 rfl (lv_at hl 1 rfl) ?_
  obtain ⟨hne, hf⟩ := z_no hf
  refine lv_idiv hx hb d_JM_floorDiv0_2 hne ?_
  refine lv_istore_n (lv' := [(2, .int (x1 / x2)), (0, .int x1), (1, .int x2)]) hx hb d_JM_floorDiv0_3 rfl hl (by decide) rfl (fun ls hl => ?_)
  refine lv_iload_n hx hb d_JM_floorDiv0_4 rfl (lv_at hl 1 rfl) ?_
  refine lv_iload_n hx hb d_JM_floorDiv0_5 rfl (lv_at hl 2 rfl) ?_
  refine lv_ixor hx hb d_JM_floorDiv0_6 ?_
  refine lv_if_ge (tgt := 21) hx hb d_JM_floorDiv0_7 (by decide) (fun hc => ?_) (fun hc => ?_)
  · have hf := z_t hc hf
    refine lv_iload_n hx hb d_JM_floorDiv0_21 rfl (lv_at hl 0 rfl) ?_
    obtain rfl := Option.some.inj hf
    exact W.iret hx hb hr (fun t ht hW => ⟨_, rfl, rfl, ht⟩) (fun q h => by cases h) d_JM_floorDiv0_22
  · have hf := z_f hc hf
    refine lv_iload_n hx hb d_JM_floorDiv0_10 rfl (lv_at hl 0 rfl) ?_
    refine lv_iload_n hx hb d_JM_floorDiv0_11 rfl (lv_at hl 2 rfl) ?_
    refine lv_imul hx hb d_JM_floorDiv0_12 ?_
    refine lv_iload_n hx hb d_JM_floorDiv0_13 rfl (lv_at hl 1 rfl) ?_
    refine lv_icmp_eq (tgt := 21) hx hb d_JM_floorDiv0_14 (by decide) (fun hc => ?_) (fun hc => ?_)
    · have hf := z_t hc hf
      refine lv_iload_n hx hb d_JM_floorDiv0_21 rfl (lv_at hl 0 rfl) ?_
      obtain rfl := Option.some.inj hf
      exact W.iret hx hb hr (fun t ht hW => ⟨_, rfl, rfl, ht⟩) (fun q h => by cases h) d_JM_floorDiv0_22
    · have hf := z_f hc hf
      refine lv_iload_n hx hb d_JM_floorDiv0_17 rfl (lv_at hl 0 rfl) ?_
      refine lv_iconst (v := 1) hx hb d_JM_floorDiv0_18 (by decide) ?_
      refine lv_isub hx hb d_JM_floorDiv0_19 ?_
      obtain rfl := Option.some.inj hf
      exact W.iret hx hb hr (fun t ht hW => ⟨_, rfl, rfl, ht⟩) (fun q h => by cases h) d_JM_floorDiv0_20
def f_F_dimmed (x1 : Int32) (x2 : Int32) : Option (Int32) := (f_JM_floorDiv0 (x2 * x1) (8 : Int32)).bind (fun q314 => some q314)
set_option maxHeartbeats 4000000 in
set_option maxRecDepth 100000 in
theorem c_F_dimmed (l : Launch) (x1 : Int32) (x2 : Int32) (r : Int32) (hf : f_F_dimmed x1 x2 = some r) : Met l y_F_dimmed w_F_dimmed rm_F_dimmed (va_Pc [.int x1, .int x2] (fun _ => True)) (vp_Si (fun v => v = r)) 0 0 (fun _ => False) := by
  refine Met.ofW (cc := b_F_dimmed) (maxL := 2) (ret := some .int) (by decide) rfl ?_
  intro p e s m args below meth c s₁ B hml hv
  obtain ⟨rfl, -⟩ := hv
  have hx := B.exec
  have hb := B.bytes
  have hr := B.returns
  have hlocks := B.notSynchronized
  have hts : ∀ w ∈ BIG, w.before ([.int x1, .int x2] : List Value).toArray s = true := fun w h => atoms_spec (ws := w_F_dimmed) B.pre w (List.mem_cons_of_mem _ h)
  have hown : s.vm.findClass "FractalMaps" = some m.cls := findClass_of_methodNamed B.named
  have hl := lv_entry ([.int x1, .int x2]) (n := 2) (Nat.le_of_ble_eq_true rfl)
  rw [lg_entry_eq]
  generalize (lg_sl ([.int x1, .int x2]) ++ List.replicate (2 - (lg_sl ([.int x1, .int x2])).length) Slot.unset).toArray = ls at hl ⊢
  have hl : lv_has ls 2 [(0, .int x1), (1, .int x2)] := hl
  unfold f_F_dimmed at hf
  refine lv_iload_n hx hb d_F_dimmed_0 rfl (lv_at hl 1 rfl) ?_
  refine lv_iload_n hx hb d_F_dimmed_1 rfl (lv_at hl 0 rfl) ?_
  refine lv_imul hx hb d_F_dimmed_2 ?_
  refine lv_bipush (v := 8) hx hb d_F_dimmed_3 (by decide) ?_
  obtain ⟨q314, hc, hf⟩ := z_b hf
  refine vp_callSi (z_cr (va_runS (As := [.int (x2 * x1), .int (8 : Int32)]) (rest := []) ⟨hx, hb, hml, hown, hts⟩ (c_JM_floorDiv0 l (x2 * x1) (8 : Int32) q314 hc) (cw_F_295 hts ⟨Nat.le_of_ble_eq_true rfl, Nat.le_of_ble_eq_true rfl⟩) ⟨zb0, zp0⟩ rfl rfl hl.1 rfl (lv_room (Nat.le_of_ble_eq_true rfl)) d_F_dimmed_5 ⟨Nat.zero_le _, Nat.zero_le _⟩)) (fun r315 hv => ?_)
  have hv := hv.symm
  subst hv
  obtain rfl := Option.some.inj hf
  exact W.iret hx hb hr (fun t ht hW => ⟨_, rfl, rfl, ht⟩) (fun q h => by cases h) d_F_dimmed_8
