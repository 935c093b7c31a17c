def f_S_takeBlock_35 (p1 : Int32) (p2 : Int32) (p3 : Int32) (p4 : Int32) (R_n : Nat) : Nat → Int32 → (Nat → Int32) → Option (Int32 × (Nat → Int32))
  | 0, _, _ => none
  | n + 1, v5, R_f => if (8 : Int32) ≤ v5 then (some (v5, R_f)) else ((f_V_sourceQuarter v5 p4).bind (fun q215 => if v5 < 0 ∨ R_n ≤ v5.toNatClampNeg then none else (f_S_takeBlock_35 p1 p2 p3 p4 R_n n (v5 + 1) (upd R_f v5.toNatClampNeg q215))))
def f_S_takeBlock_91 (p1 : Int32) (p2 : Int32) (p3 : Int32) (p4 : Int32) (p6 : Int32) (P_side : Int32) (PA_n : Nat) (PA_f : Nat → Int32) (W_n : Nat) : Nat → Int32 → Int32 → (Nat → Int32) → Option (Int32 × Int32 × (Nat → Int32))
  | 0, _, _, _ => none
  | n + 1, v5, v7, W_f => if p3 ≤ v7 then (some (v5, v7, W_f)) else (if (nI W_n) ≤ v5 then (some (v5, v7, W_f)) else ((f_G_sample (p1 + v7) (p2 + p6) P_side PA_n PA_f).bind (fun q225 => if v5 < 0 ∨ W_n ≤ v5.toNatClampNeg then none else (f_S_takeBlock_91 p1 p2 p3 p4 p6 P_side PA_n PA_f W_n n (v5 + 1) (v7 + 1) (upd W_f v5.toNatClampNeg q225)))))
def f_S_takeBlock_82 (p1 : Int32) (p2 : Int32) (p3 : Int32) (p4 : Int32) (P_side : Int32) (PA_n : Nat) (PA_f : Nat → Int32) (W_n : Nat) : Nat → Int32 → Int32 → (Nat → Int32) → Option (Int32 × Int32 × (Nat → Int32))
  | 0, _, _, _ => none
  | n + 1, v5, v6, W_f => if p3 ≤ v6 then (some (v5, v6, W_f)) else ((f_S_takeBlock_91 p1 p2 p3 p4 v6 P_side PA_n PA_f W_n FU v5 (0 : Int32) W_f).bind (fun q227 => f_S_takeBlock_82 p1 p2 p3 p4 P_side PA_n PA_f W_n n q227.1 (v6 + 1) q227.2.2))
def f_S_takeBlock (x1 : Int32) (x2 : Int32) (x3 : Int32) (P_side : Int32) (PA_n : Nat) (PA_f : Nat → Int32) (W_n : Nat) (W_f : Nat → Int32) (R_n : Nat) (R_f : Nat → Int32) : Option (Int32 × Int32 × Int32 × (Nat → Int32) × (Nat → Int32)) := (f_G_brightestQuarter x1 x2 x3 P_side PA_n PA_f).bind (fun q213 => (f_S_takeBlock_35 x1 x2 x3 q213 R_n FU (0 : Int32) R_f).bind (fun q217 => (f_G_sum x1 x2 x3 P_side PA_n PA_f).bind (fun q223 => (f_S_takeBlock_82 x1 x2 x3 q213 P_side PA_n PA_f W_n FU (0 : Int32) (0 : Int32) W_f).bind (fun q234 => some (x3, (if (nI W_n) < (x3 * x3) then (nI W_n) else (x3 * x3)), q223, q234.2.2, q217.2)))))
set_option maxHeartbeats 4000000 in
set_option maxRecDepth 100000 in
theorem c_S_takeBlock (l : Launch) (dC : Nat → ClassId) (dI : Nat → Nat → Nat) (cI cL : ClassId) {ws0 : va_W} (sz : Nat) {aS aP aH aV aW aD aQ aR aE aPA : Nat} {S_tried S_size S_count S_wantedSum S_foundSum S_foundSquares P_mostSide P_side : Int32} {PA_n W_n R_n : Nat} {PA_f W_f R_f : Nat → Int32} (x1 : Int32) (x2 : Int32) (x3 : Int32) (hN_S : ws0[8]? = some (aS, .inr (3, [.ref aP, .ref aH, .ref aV, .ref aW, .ref aD, .ref aQ, .ref aR, .ref aE, .int S_tried, .int S_size, .int S_count, .int S_wantedSum, .int S_foundSum, .int S_foundSquares]))) (hN_P : ws0[1]? = some (aP, .inr (1, [.int P_mostSide, .ref aPA, .int P_side]))) (hN_PA : ws0[2]? = some (aPA, .inl (cI, PA_n, .inl PA_f))) (hN_W : ws0[9]? = some (aW, .inl (cI, W_n, .inl W_f))) (hN_R : ws0[12]? = some (aR, .inl (cI, R_n, .inl R_f))) (r : Int32 × Int32 × Int32 × (Nat → Int32) × (Nat → Int32)) (hf : f_S_takeBlock x1 x2 x3 P_side PA_n PA_f W_n W_f R_n R_f = some r) : Met l y_S_takeBlock w_S_takeBlock rm_S_takeBlock (va_Pc [.ref aS, .int x1, .int x2, .int x3] (zM dC dI cI cL ws0 sz)) (va_Qv (fun ws' : va_W => ws'[8]? = some (aS, .inr (3, [.ref aP, .ref aH, .ref aV, .ref aW, .ref aD, .ref aQ, .ref aR, .ref aE, .int S_tried, .int r.1, .int r.2.1, .int r.2.2.1, .int S_foundSum, .int S_foundSquares])) ∧ ws'[9]? = some (aW, .inl (cI, W_n, .inl r.2.2.2.1)) ∧ ws'[12]? = some (aR, .inl (cI, R_n, .inl r.2.2.2.2)) ∧ ∀ (j : Nat), j ∉ ([8, 9, 12] : List Nat) → ws'[j]? = ws0[j]?) (zQ dC dI cI cL (va_A ws0 sz)) (va_A ws0 sz)) 0 0 (va_A ws0 sz) := by
  refine Met.ofW (cc := b_S_takeBlock) (maxL := 8) (ret := none) (by decide) rfl ?_
  intro p e s m args below meth c s₁ B hml hv
  obtain ⟨rfl, hsz, hP, hK, hZ, hD0⟩ := hv
  have hx := B.exec
  have hb := B.bytes
  have hr := B.returns
  have hlocks := B.notSynchronized
  have hts : ∀ w ∈ BIG, w.before ([.ref aS, .int x1, .int x2, .int x3] : List Value).toArray s = true := fun w h => atoms_spec (ws := w_S_takeBlock) B.pre w (List.mem_cons_of_mem _ h)
  have hown : s.vm.findClass "FractalMaps$Search" = some m.cls := findClass_of_methodNamed B.named
  subst hsz
  have hD := hD0.self (sz := s.heap.size)
  generalize hAe : va_A ws0 s.heap.size = A at hD ⊢
  have hA : ∀ q : Nat, s.heap.size ≤ q → A q := fun q h => by rw [← hAe]; exact Or.inr h
  have hS : va_S A s.heap s.heap [] := va_S.rf
  have hw : ∀ (j : Nat), j ∉ ([8, 9, 12] : List Nat) → ws0[j]? = ws0[j]? := fun _ _ => rfl
  have hl := lv_entry ([.ref aS, .int x1, .int x2, .int x3]) (n := 8) (Nat.le_of_ble_eq_true rfl)
  rw [lg_entry_eq]
  generalize (lg_sl ([.ref aS, .int x1, .int x2, .int x3]) ++ List.replicate (8 - (lg_sl ([.ref aS, .int x1, .int x2, .int x3])).length) Slot.unset).toArray = ls at hl ⊢
  have hl : lv_has ls 8 [(0, .ref aS), (1, .int x1), (2, .int x2), (3, .int x3)] := hl
  unfold f_S_takeBlock at hf
  refine lv_aload_n hx hb d_S_takeBlock_0 rfl (lv_at hl 0 rfl) ?_
  refine lv_iload_n hx hb d_S_takeBlock_1 rfl (lv_at hl 3 rfl) ?_
  refine pf_S_78 (v := .int x3) hx hb hts hown hK hP hD hS hN_S rfl rfl (Nat.le_of_ble_eq_true rfl) d_S_takeBlock_2 (fun ws H locs hP hD hS hN_S hfr => ?_)
  have hN_S : ws[8]? = some (aS, .inr (3, [.ref aP, .ref aH, .ref aV, .ref aW, .ref aD, .ref aQ, .ref aR, .ref aE, .int S_tried, .int x3, .int S_count, .int S_wantedSum, .int S_foundSum, .int S_foundSquares])) := hN_S
  have hN_P := (hfr _ (by decide)).trans hN_P
  have hN_PA := (hfr _ (by decide)).trans hN_PA
  have hN_W := (hfr _ (by decide)).trans hN_W
  have hN_R := (hfr _ (by decide)).trans hN_R
  have hw := z_fr (by decide) hw hfr
  refine lv_aload_n hx hb d_S_takeBlock_5 rfl (lv_at hl 0 rfl) ?_
  refine lv_iload_n hx hb d_S_takeBlock_6 rfl (lv_at hl 3 rfl) ?_
  refine lv_iload_n hx hb d_S_takeBlock_7 rfl (lv_at hl 3 rfl) ?_
  refine lv_imul hx hb d_S_takeBlock_8 ?_
  refine lv_aload_n hx hb d_S_takeBlock_9 rfl (lv_at hl 0 rfl) ?_
  refine gf_S_28 (v := .ref aW) hx hb hts hown hK hP hN_S rfl d_S_takeBlock_10 ?_
  refine va_alen (v := nI W_n) hx hb hK hP _ 0 hN_W rfl rfl d_S_takeBlock_13 ?_
  refine mm_S_81 hx hb (hml.trans hl.1.symm) hown hts (Nat.le_of_ble_eq_true rfl) (Nat.le_of_ble_eq_true rfl) (Nat.zero_le _) (Nat.zero_le _) d_S_takeBlock_14 ?_
  refine pf_S_86 (v := .int (if (nI W_n) < (x3 * x3) then (nI W_n) else (x3 * x3))) hx hb hts hown hK hP hD hS hN_S rfl rfl (Nat.le_of_ble_eq_true rfl) d_S_takeBlock_17 (fun ws H locs hP hD hS hN_S hfr => ?_)
  have hN_S : ws[8]? = some (aS, .inr (3, [.ref aP, .ref aH, .ref aV, .ref aW, .ref aD, .ref aQ, .ref aR, .ref aE, .int S_tried, .int x3, .int (if (nI W_n) < (x3 * x3) then (nI W_n) else (x3 * x3)), .int S_wantedSum, .int S_foundSum, .int S_foundSquares])) := hN_S
  have hN_P := (hfr _ (by decide)).trans hN_P
  have hN_PA := (hfr _ (by decide)).trans hN_PA
  have hN_W := (hfr _ (by decide)).trans hN_W
  have hN_R := (hfr _ (by decide)).trans hN_R
  have hw := z_fr (by decide) hw hfr
  refine lv_aload_n hx hb d_S_takeBlock_20 rfl (lv_at hl 0 rfl) ?_
  refine gf_S_9 (v := .ref aP) hx hb hts hown hK hP hN_S rfl d_S_takeBlock_21 ?_
  refine lv_iload_n hx hb d_S_takeBlock_24 rfl (lv_at hl 1 rfl) ?_
  refine lv_iload_n hx hb d_S_takeBlock_25 rfl (lv_at hl 2 rfl) ?_
  refine lv_iload_n hx hb d_S_takeBlock_26 rfl (lv_at hl 3 rfl) ?_
  obtain ⟨q213, hc, hf⟩ := z_b hf
  refine vp_callSi (z_cr (va_runV (As := [.int x1, .int x2, .int x3]) (rest := []) ⟨hx, hb, hml, hown, hts⟩ (c_G_brightestQuarter l dC dI cI cL x1 x2 x3 hN_P hN_PA q213 hc) (cw_S_89 hts ⟨Nat.le_of_ble_eq_true rfl, Nat.le_of_ble_eq_true rfl⟩) ⟨zbR, va_recv hK hP (ci := 1) rfl hN_P, (zpR hP hK hZ)⟩ rfl rfl hl.1 rfl (lv_room (Nat.le_of_ble_eq_true rfl)) d_S_takeBlock_27 ⟨Nat.zero_le _, Nat.zero_le _⟩)) (fun r214 hv => ?_)
  have hv := hv.symm
  subst hv
  refine lv_istore (lv' := [(4, .int q213), (0, .ref aS), (1, .int x1), (2, .int x2), (3, .int x3)]) hx hb d_S_takeBlock_30 hl (by decide) rfl (fun ls hl => ?_)
  refine lv_iconst (v := 0) hx hb d_S_takeBlock_32 (by decide) ?_
  refine lv_istore (lv' := [(5, .int (0 : Int32)), (4, .int q213), (0, .ref aS), (1, .int x1), (2, .int x2), (3, .int x3)]) hx hb d_S_takeBlock_33 hl (by decide) rfl (fun ls hl => ?_)
  have lp220 : ∀ (Qx : State → Prop) (n : Nat) (v5_218 : Int32) (R_f_219 : Nat → Int32) (ws : va_W) (H : Heap) (locs : List Loc) (ls : Array Slot) (q : Int32 × (Nat → Int32)) (hf : f_S_takeBlock_35 x1 x2 x3 q213 R_n n v5_218 R_f_219 = some q) (hl : lv_has ls 8 [(0, .ref aS), (1, .int x1), (2, .int x2), (3, .int x3), (4, .int q213), (5, .int v5_218)]) (hP : va_P (dC, dI) classes ws H) (hD : va_D A ws) (hS : va_S A s.heap H locs) (hN_S : ws[8]? = some (aS, .inr (3, [.ref aP, .ref aH, .ref aV, .ref aW, .ref aD, .ref aQ, .ref aR, .ref aE, .int S_tried, .int x3, .int (if (nI W_n) < (x3 * x3) then (nI W_n) else (x3 * x3)), .int S_wantedSum, .int S_foundSum, .int S_foundSquares]))) (hN_P : ws[1]? = some (aP, .inr (1, [.int P_mostSide, .ref aPA, .int P_side]))) (hN_PA : ws[2]? = some (aPA, .inl (cI, PA_n, .inl PA_f))) (hN_W : ws[9]? = some (aW, .inl (cI, W_n, .inl W_f))) (hN_R : ws[12]? = some (aR, .inl (cI, R_n, .inl R_f_219))) (hw : ∀ (j : Nat), j ∉ ([8, 9, 12] : List Nat) → ws[j]? = ws0[j]?) (kt0 : ∀ (ws : va_W) (H : Heap) (locs : List Loc) (ls : Array Slot), lv_has ls 8 [(0, .ref aS), (1, .int x1), (2, .int x2), (3, .int x3), (4, .int q213), (5, .int q.1)] → (va_P (dC, dI) classes ws H) → (va_D A ws) → (va_S A s.heap H locs) → (ws[8]? = some (aS, .inr (3, [.ref aP, .ref aH, .ref aV, .ref aW, .ref aD, .ref aQ, .ref aR, .ref aE, .int S_tried, .int x3, .int (if (nI W_n) < (x3 * x3) then (nI W_n) else (x3 * x3)), .int S_wantedSum, .int S_foundSum, .int S_foundSquares]))) → (ws[1]? = some (aP, .inr (1, [.int P_mostSide, .ref aPA, .int P_side]))) → (ws[2]? = some (aPA, .inl (cI, PA_n, .inl PA_f))) → (ws[9]? = some (aW, .inl (cI, W_n, .inl W_f))) → (ws[12]? = some (aR, .inl (cI, R_n, .inl q.2))) → (∀ (j : Nat), j ∉ ([8, 9, 12] : List Nat) → ws[j]? = ws0[j]?) → W p l e (headSpec w_S_takeBlock rm_S_takeBlock).room s m ([.ref aS, .int x1, .int x2, .int x3] : List Value).toArray below meth c H locs 0 0 Qx (F0 m 62 ls [])), W p l e (headSpec w_S_takeBlock rm_S_takeBlock).room s m ([.ref aS, .int x1, .int x2, .int x3] : List Value).toArray below meth c H locs 0 0 Qx (F0 m 35 ls []) := by
    intro Qx n
    induction n with
    | zero => intro v5_218 R_f_219 ws H locs ls q hf; cases hf
    | succ n ih =>
      intro v5_218 R_f_219 ws H locs ls q hf hl hP hD hS hN_S hN_P hN_PA hN_W hN_R hw kt0
      rw [f_S_takeBlock_35] at hf
      refine lv_iload hx hb d_S_takeBlock_35 (lv_at hl 5 rfl) ?_
      refine lv_bipush (v := 8) hx hb d_S_takeBlock_37 (by decide) ?_
      refine lv_icmp_ge (tgt := 62) hx hb d_S_takeBlock_39 (by decide) (fun hc => ?_) (fun hc => ?_)
      · have hf := z_t hc hf
        obtain rfl := Option.some.inj hf
        exact kt0 _ _ _ ls (lv_sub hl [0, 1, 2, 3, 4, 5] rfl) hP hD hS hN_S hN_P hN_PA hN_W hN_R hw
      · have hf := z_f hc hf
        refine lv_aload_n hx hb d_S_takeBlock_42 rfl (lv_at hl 0 rfl) ?_
        refine gf_S_37 (v := .ref aR) hx hb hts hown hK hP hN_S rfl d_S_takeBlock_43 ?_
        refine lv_iload hx hb d_S_takeBlock_46 (lv_at hl 5 rfl) ?_
        refine lv_iload hx hb d_S_takeBlock_48 (lv_at hl 5 rfl) ?_
        refine lv_iload hx hb d_S_takeBlock_50 (lv_at hl 4 rfl) ?_
        obtain ⟨q221, hc, hf⟩ := z_b hf
        refine vp_callSi (z_cr (va_runS (As := [.int v5_218, .int q213]) (rest := [.int v5_218, .ref aR]) ⟨hx, hb, hml, hown, hts⟩ (c_V_sourceQuarter l v5_218 q213 q221 hc) (cw_S_93 hts ⟨Nat.le_of_ble_eq_true rfl, Nat.le_of_ble_eq_true rfl⟩) ⟨zbN, (zpN hZ)⟩ rfl rfl hl.1 rfl (lv_room (Nat.le_of_ble_eq_true rfl)) d_S_takeBlock_52 ⟨Nat.zero_le _, Nat.zero_le _⟩)) (fun r222 hv => ?_)
        have hv := hv.symm
        subst hv
        obtain ⟨hin, hf⟩ := z_no hf
        refine z_iast hx hb hK hP hD hS hN_R rfl hin d_S_takeBlock_55 (fun ws H locs hP hD hS hN_R hfr => ?_)
        have hN_R : ws[12]? = some (aR, .inl (cI, R_n, .inl (upd R_f_219 v5_218.toNatClampNeg q221))) := hN_R
        have hN_S := (hfr _ (by decide)).trans hN_S
        have hN_P := (hfr _ (by decide)).trans hN_P
        have hN_PA := (hfr _ (by decide)).trans hN_PA
        have hN_W := (hfr _ (by decide)).trans hN_W
        have hw := z_fr (by decide) hw hfr
        refine lv_iinc (v := (v5_218 + 1)) (lv' := [(5, .int (v5_218 + 1)), (0, .ref aS), (1, .int x1), (2, .int x2), (3, .int x3), (4, .int q213)]) hx hb d_S_takeBlock_56 hl (k := 5) rfl rfl (by decide) rfl (fun ls hl => ?_)
        refine lv_goto (tgt := 35) hx hb d_S_takeBlock_59 (by decide) ?_
        exact ih (v5_218 + 1) (upd R_f_219 v5_218.toNatClampNeg q221) _ _ _ ls _ hf (lv_sub hl [1, 2, 3, 4, 5, 0] rfl) hP hD hS hN_S hN_P hN_PA hN_W hN_R hw kt0
  obtain ⟨q217, hc, hf⟩ := z_b hf
  refine lp220 _ FU (0 : Int32) R_f _ _ _ ls q217 hc (lv_sub hl [2, 3, 4, 5, 1, 0] rfl) hP hD hS hN_S hN_P hN_PA hN_W hN_R hw (fun ws H locs ls hl hP hD hS hN_S hN_P hN_PA hN_W hN_R hw => ?_)
  refine lv_aload_n hx hb d_S_takeBlock_62 rfl (lv_at hl 0 rfl) ?_
  refine lv_aload_n hx hb d_S_takeBlock_63 rfl (lv_at hl 0 rfl) ?_
  refine gf_S_9 (v := .ref aP) hx hb hts hown hK hP hN_S rfl d_S_takeBlock_64 ?_
  refine lv_iload_n hx hb d_S_takeBlock_67 rfl (lv_at hl 1 rfl) ?_
  refine lv_iload_n hx hb d_S_takeBlock_68 rfl (lv_at hl 2 rfl) ?_
  refine lv_iload_n hx hb d_S_takeBlock_69 rfl (lv_at hl 3 rfl) ?_
  obtain ⟨q223, hc, hf⟩ := z_b hf
  refine vp_callSi (z_cr (va_runV (As := [.int x1, .int x2, .int x3]) (rest := [.ref aS]) ⟨hx, hb, hml, hown, hts⟩ (c_G_sum l dC dI cI cL x1 x2 x3 hN_P hN_PA q223 hc) (cw_S_98 hts ⟨Nat.le_of_ble_eq_true rfl, Nat.le_of_ble_eq_true rfl⟩) ⟨zbR, va_recv hK hP (ci := 1) rfl hN_P, (zpR hP hK hZ)⟩ rfl rfl hl.1 rfl (lv_room (Nat.le_of_ble_eq_true rfl)) d_S_takeBlock_70 ⟨Nat.zero_le _, Nat.zero_le _⟩)) (fun r224 hv => ?_)
  have hv := hv.symm
  subst hv
  refine pf_S_101 (v := .int q223) hx hb hts hown hK hP hD hS hN_S rfl rfl (Nat.le_of_ble_eq_true rfl) d_S_takeBlock_73 (fun ws H locs hP hD hS hN_S hfr => ?_)
  have hN_S : ws[8]? = some (aS, .inr (3, [.ref aP, .ref aH, .ref aV, .ref aW, .ref aD, .ref aQ, .ref aR, .ref aE, .int S_tried, .int x3, .int (if (nI W_n) < (x3 * x3) then (nI W_n) else (x3 * x3)), .int q223, .int S_foundSum, .int S_foundSquares])) := hN_S
  have hN_P := (hfr _ (by decide)).trans hN_P
  have hN_PA := (hfr _ (by decide)).trans hN_PA
  have hN_W := (hfr _ (by decide)).trans hN_W
  have hN_R := (hfr _ (by decide)).trans hN_R
  have hw := z_fr (by decide) hw hfr
  refine lv_iconst (v := 0) hx hb d_S_takeBlock_76 (by decide) ?_
  refine lv_istore (lv' := [(5, .int (0 : Int32)), (0, .ref aS), (1, .int x1), (2, .int x2), (3, .int x3), (4, .int q213)]) hx hb d_S_takeBlock_77 hl (by decide) rfl (fun ls hl => ?_)
  refine lv_iconst (v := 0) hx hb d_S_takeBlock_79 (by decide) ?_
  refine lv_istore (lv' := [(6, .int (0 : Int32)), (5, .int (0 : Int32)), (0, .ref aS), (1, .int x1), (2, .int x2), (3, .int x3), (4, .int q213)]) hx hb d_S_takeBlock_80 hl (by decide) rfl (fun ls hl => ?_)
  have lp238 : ∀ (Qx : State → Prop) (n : Nat) (v5_235 : Int32) (v6_236 : Int32) (W_f_237 : Nat → Int32) (ws : va_W) (H : Heap) (locs : List Loc) (ls : Array Slot) (q : Int32 × Int32 × (Nat → Int32)) (hf : f_S_takeBlock_82 x1 x2 x3 q213 P_side PA_n PA_f W_n n v5_235 v6_236 W_f_237 = some q) (hl : lv_has ls 8 [(0, .ref aS), (1, .int x1), (2, .int x2), (3, .int x3), (4, .int q213), (5, .int v5_235), (6, .int v6_236)]) (hP : va_P (dC, dI) classes ws H) (hD : va_D A ws) (hS : va_S A s.heap H locs) (hN_S : ws[8]? = some (aS, .inr (3, [.ref aP, .ref aH, .ref aV, .ref aW, .ref aD, .ref aQ, .ref aR, .ref aE, .int S_tried, .int x3, .int (if (nI W_n) < (x3 * x3) then (nI W_n) else (x3 * x3)), .int q223, .int S_foundSum, .int S_foundSquares]))) (hN_P : ws[1]? = some (aP, .inr (1, [.int P_mostSide, .ref aPA, .int P_side]))) (hN_PA : ws[2]? = some (aPA, .inl (cI, PA_n, .inl PA_f))) (hN_W : ws[9]? = some (aW, .inl (cI, W_n, .inl W_f_237))) (hN_R : ws[12]? = some (aR, .inl (cI, R_n, .inl q217.2))) (hw : ∀ (j : Nat), j ∉ ([8, 9, 12] : List Nat) → ws[j]? = ws0[j]?) (kt0 : ∀ (ws : va_W) (H : Heap) (locs : List Loc) (ls : Array Slot), lv_has ls 8 [(0, .ref aS), (1, .int x1), (2, .int x2), (3, .int x3), (4, .int q213), (5, .int q.1), (6, .int q.2.1)] → (va_P (dC, dI) classes ws H) → (va_D A ws) → (va_S A s.heap H locs) → (ws[8]? = some (aS, .inr (3, [.ref aP, .ref aH, .ref aV, .ref aW, .ref aD, .ref aQ, .ref aR, .ref aE, .int S_tried, .int x3, .int (if (nI W_n) < (x3 * x3) then (nI W_n) else (x3 * x3)), .int q223, .int S_foundSum, .int S_foundSquares]))) → (ws[1]? = some (aP, .inr (1, [.int P_mostSide, .ref aPA, .int P_side]))) → (ws[2]? = some (aPA, .inl (cI, PA_n, .inl PA_f))) → (ws[9]? = some (aW, .inl (cI, W_n, .inl q.2.2))) → (ws[12]? = some (aR, .inl (cI, R_n, .inl q217.2))) → (∀ (j : Nat), j ∉ ([8, 9, 12] : List Nat) → ws[j]? = ws0[j]?) → W p l e (headSpec w_S_takeBlock rm_S_takeBlock).room s m ([.ref aS, .int x1, .int x2, .int x3] : List Value).toArray below meth c H locs 0 0 Qx (F0 m 144 ls [])), W p l e (headSpec w_S_takeBlock rm_S_takeBlock).room s m ([.ref aS, .int x1, .int x2, .int x3] : List Value).toArray below meth c H locs 0 0 Qx (F0 m 82 ls []) := by
    intro Qx n
    induction n with
    | zero => intro v5_235 v6_236 W_f_237 ws H locs ls q hf; cases hf
    | succ n ih =>
      intro v5_235 v6_236 W_f_237 ws H locs ls q hf hl hP hD hS hN_S hN_P hN_PA hN_W hN_R hw kt0
      rw [f_S_takeBlock_82] at hf
      refine lv_iload hx hb d_S_takeBlock_82 (lv_at hl 6 rfl) ?_
      refine lv_iload_n hx hb d_S_takeBlock_84 rfl (lv_at hl 3 rfl) ?_
      refine lv_icmp_ge (tgt := 144) hx hb d_S_takeBlock_85 (by decide) (fun hc => ?_) (fun hc => ?_)
      · have hf := z_t hc hf
        obtain rfl := Option.some.inj hf
        exact kt0 _ _ _ ls (lv_sub hl [0, 1, 2, 3, 4, 5, 6] rfl) hP hD hS hN_S hN_P hN_PA hN_W hN_R hw
      · have hf := z_f hc hf
        refine lv_iconst (v := 0) hx hb d_S_takeBlock_88 (by decide) ?_
        refine lv_istore (lv' := [(7, .int (0 : Int32)), (0, .ref aS), (1, .int x1), (2, .int x2), (3, .int x3), (4, .int q213), (5, .int v5_235), (6, .int v6_236)]) hx hb d_S_takeBlock_89 hl (by decide) rfl (fun ls hl => ?_)
        have lp243 : ∀ (Qx : State → Prop) (n : Nat) (v5_240 : Int32) (v7_241 : Int32) (W_f_242 : Nat → Int32) (ws : va_W) (H : Heap) (locs : List Loc) (ls : Array Slot) (q : Int32 × Int32 × (Nat → Int32)) (hf : f_S_takeBlock_91 x1 x2 x3 q213 v6_236 P_side PA_n PA_f W_n n v5_240 v7_241 W_f_242 = some q) (hl : lv_has ls 8 [(0, .ref aS), (1, .int x1), (2, .int x2), (3, .int x3), (4, .int q213), (5, .int v5_240), (6, .int v6_236), (7, .int v7_241)]) (hP : va_P (dC, dI) classes ws H) (hD : va_D A ws) (hS : va_S A s.heap H locs) (hN_S : ws[8]? = some (aS, .inr (3, [.ref aP, .ref aH, .ref aV, .ref aW, .ref aD, .ref aQ, .ref aR, .ref aE, .int S_tried, .int x3, .int (if (nI W_n) < (x3 * x3) then (nI W_n) else (x3 * x3)), .int q223, .int S_foundSum, .int S_foundSquares]))) (hN_P : ws[1]? = some (aP, .inr (1, [.int P_mostSide, .ref aPA, .int P_side]))) (hN_PA : ws[2]? = some (aPA, .inl (cI, PA_n, .inl PA_f))) (hN_W : ws[9]? = some (aW, .inl (cI, W_n, .inl W_f_242))) (hN_R : ws[12]? = some (aR, .inl (cI, R_n, .inl q217.2))) (hw : ∀ (j : Nat), j ∉ ([8, 9, 12] : List Nat) → ws[j]? = ws0[j]?) (kt0 : ∀ (ws : va_W) (H : Heap) (locs : List Loc) (ls : Array Slot), lv_has ls 8 [(0, .ref aS), (1, .int x1), (2, .int x2), (3, .int x3), (4, .int q213), (5, .int q.1), (6, .int v6_236), (7, .int q.2.1)] → (va_P (dC, dI) classes ws H) → (va_D A ws) → (va_S A s.heap H locs) → (ws[8]? = some (aS, .inr (3, [.ref aP, .ref aH, .ref aV, .ref aW, .ref aD, .ref aQ, .ref aR, .ref aE, .int S_tried, .int x3, .int (if (nI W_n) < (x3 * x3) then (nI W_n) else (x3 * x3)), .int q223, .int S_foundSum, .int S_foundSquares]))) → (ws[1]? = some (aP, .inr (1, [.int P_mostSide, .ref aPA, .int P_side]))) → (ws[2]? = some (aPA, .inl (cI, PA_n, .inl PA_f))) → (ws[9]? = some (aW, .inl (cI, W_n, .inl q.2.2))) → (ws[12]? = some (aR, .inl (cI, R_n, .inl q217.2))) → (∀ (j : Nat), j ∉ ([8, 9, 12] : List Nat) → ws[j]? = ws0[j]?) → W p l e (headSpec w_S_takeBlock rm_S_takeBlock).room s m ([.ref aS, .int x1, .int x2, .int x3] : List Value).toArray below meth c H locs 0 0 Qx (F0 m 138 ls [])), W p l e (headSpec w_S_takeBlock rm_S_takeBlock).room s m ([.ref aS, .int x1, .int x2, .int x3] : List Value).toArray below meth c H locs 0 0 Qx (F0 m 91 ls []) := by
          intro Qx n
          induction n with
          | zero => intro v5_240 v7_241 W_f_242 ws H locs ls q hf; cases hf
          | succ n ih =>
            intro v5_240 v7_241 W_f_242 ws H locs ls q hf hl hP hD hS hN_S hN_P hN_PA hN_W hN_R hw kt0
            rw [f_S_takeBlock_91] at hf
            refine lv_iload hx hb d_S_takeBlock_91 (lv_at hl 7 rfl) ?_
            refine lv_iload_n hx hb d_S_takeBlock_93 rfl (lv_at hl 3 rfl) ?_
            refine lv_icmp_ge (tgt := 138) hx hb d_S_takeBlock_94 (by decide) (fun hc => ?_) (fun hc => ?_)
            · have hf := z_t hc hf
              obtain rfl := Option.some.inj hf
              exact kt0 _ _ _ ls (lv_sub hl [0, 1, 2, 3, 4, 5, 6, 7] rfl) hP hD hS hN_S hN_P hN_PA hN_W hN_R hw
            · have hf := z_f hc hf
              refine lv_iload hx hb d_S_takeBlock_97 (lv_at hl 5 rfl) ?_
              refine lv_aload_n hx hb d_S_takeBlock_99 rfl (lv_at hl 0 rfl) ?_
              refine gf_S_28 (v := .ref aW) hx hb hts hown hK hP hN_S rfl d_S_takeBlock_100 ?_
              refine va_alen (v := nI W_n) hx hb hK hP _ 0 hN_W rfl rfl d_S_takeBlock_103 ?_
              refine lv_icmp_ge (tgt := 138) hx hb d_S_takeBlock_104 (by decide) (fun hc => ?_) (fun hc => ?_)
              · have hf := z_t hc hf
                obtain rfl := Option.some.inj hf
                exact kt0 _ _ _ ls (lv_sub hl [0, 1, 2, 3, 4, 5, 6, 7] rfl) hP hD hS hN_S hN_P hN_PA hN_W hN_R hw
              · have hf := z_f hc hf
                refine lv_aload_n hx hb d_S_takeBlock_107 rfl (lv_at hl 0 rfl) ?_
                refine gf_S_28 (v := .ref aW) hx hb hts hown hK hP hN_S rfl d_S_takeBlock_108 ?_
                refine lv_iload hx hb d_S_takeBlock_111 (lv_at hl 5 rfl) ?_
                refine lv_aload_n hx hb d_S_takeBlock_113 rfl (lv_at hl 0 rfl) ?_
                refine gf_S_9 (v := .ref aP) hx hb hts hown hK hP hN_S rfl d_S_takeBlock_114 ?_
                refine lv_iload_n hx hb d_S_takeBlock_117 rfl (lv_at hl 1 rfl) ?_
                refine lv_iload hx hb d_S_takeBlock_118 (lv_at hl 7 rfl) ?_
                refine lv_iadd hx hb d_S_takeBlock_120 ?_
                refine lv_iload_n hx hb d_S_takeBlock_121 rfl (lv_at hl 2 rfl) ?_
                refine lv_iload hx hb d_S_takeBlock_122 (lv_at hl 6 rfl) ?_
                refine lv_iadd hx hb d_S_takeBlock_124 ?_
                obtain ⟨q244, hc, hf⟩ := z_b hf
                refine vp_callSi (z_cr (va_runV (As := [.int (x1 + v7_241), .int (x2 + v6_236)]) (rest := [.int v5_240, .ref aW]) ⟨hx, hb, hml, hown, hts⟩ (c_G_sample l dC dI cI cL (x1 + v7_241) (x2 + v6_236) hN_P hN_PA q244 hc) (cw_S_104 hts ⟨Nat.le_of_ble_eq_true rfl, Nat.le_of_ble_eq_true rfl⟩) ⟨zbR, va_recv hK hP (ci := 1) rfl hN_P, (zpR hP hK hZ)⟩ rfl rfl hl.1 rfl (lv_room (Nat.le_of_ble_eq_true rfl)) d_S_takeBlock_125 ⟨Nat.zero_le _, Nat.zero_le _⟩)) (fun r245 hv => ?_)
                have hv := hv.symm
                subst hv
                obtain ⟨hin, hf⟩ := z_no hf
                refine z_iast hx hb hK hP hD hS hN_W rfl hin d_S_takeBlock_128 (fun ws H locs hP hD hS hN_W hfr => ?_)
                have hN_W : ws[9]? = some (aW, .inl (cI, W_n, .inl (upd W_f_242 v5_240.toNatClampNeg q244))) := hN_W
                have hN_S := (hfr _ (by decide)).trans hN_S
                have hN_P := (hfr _ (by decide)).trans hN_P
                have hN_PA := (hfr _ (by decide)).trans hN_PA
                have hN_R := (hfr _ (by decide)).trans hN_R
                have hw := z_fr (by decide) hw hfr
                refine lv_iinc (v := (v5_240 + 1)) (lv' := [(5, .int (v5_240 + 1)), (0, .ref aS), (1, .int x1), (2, .int x2), (3, .int x3), (4, .int q213), (6, .int v6_236), (7, .int v7_241)]) hx hb d_S_takeBlock_129 hl (k := 5) rfl rfl (by decide) rfl (fun ls hl => ?_)
                refine lv_iinc (v := (v7_241 + 1)) (lv' := [(7, .int (v7_241 + 1)), (5, .int (v5_240 + 1)), (0, .ref aS), (1, .int x1), (2, .int x2), (3, .int x3), (4, .int q213), (6, .int v6_236)]) hx hb d_S_takeBlock_132 hl (k := 7) rfl rfl (by decide) rfl (fun ls hl => ?_)
                refine lv_goto (tgt := 91) hx hb d_S_takeBlock_135 (by decide) ?_
                exact ih (v5_240 + 1) (v7_241 + 1) (upd W_f_242 v5_240.toNatClampNeg q244) _ _ _ ls _ hf (lv_sub hl [2, 3, 4, 5, 6, 1, 7, 0] rfl) hP hD hS hN_S hN_P hN_PA hN_W hN_R hw kt0
        obtain ⟨q239, hc, hf⟩ := z_b hf
        refine lp243 _ FU v5_235 (0 : Int32) W_f_237 _ _ _ ls q239 hc (lv_sub hl [1, 2, 3, 4, 5, 6, 7, 0] rfl) hP hD hS hN_S hN_P hN_PA hN_W hN_R hw (fun ws H locs ls hl hP hD hS hN_S hN_P hN_PA hN_W hN_R hw => ?_)
        refine lv_iinc (v := (v6_236 + 1)) (lv' := [(6, .int (v6_236 + 1)), (0, .ref aS), (1, .int x1), (2, .int x2), (3, .int x3), (4, .int q213), (5, .int q239.1), (7, .int q239.2.1)]) hx hb d_S_takeBlock_138 hl (k := 6) rfl rfl (by decide) rfl (fun ls hl => ?_)
        refine lv_goto (tgt := 82) hx hb d_S_takeBlock_141 (by decide) ?_
        exact ih q239.1 (v6_236 + 1) q239.2.2 _ _ _ ls _ hf (lv_sub hl [1, 2, 3, 4, 5, 6, 0] rfl) hP hD hS hN_S hN_P hN_PA hN_W hN_R hw kt0
  obtain ⟨q234, hc, hf⟩ := z_b hf
  refine lp238 _ FU (0 : Int32) (0 : Int32) W_f _ _ _ ls q234 hc (lv_sub hl [2, 3, 4, 5, 6, 1, 0] rfl) hP hD hS hN_S hN_P hN_PA hN_W hN_R hw (fun ws H locs ls hl hP hD hS hN_S hN_P hN_PA hN_W hN_R hw => ?_)
  obtain rfl := Option.some.inj hf
  exact W.vret hx hb hr (fun t ht hW => ⟨⟨ws, rfl, ⟨hN_S, hN_W, hN_R, hw⟩, by rw [ht]; exact hP, va_K.moved hW.alike hK, hD⟩, hS.F ht⟩) hS.2.2 d_S_takeBlock_144
def f_T_become (x1 : Int32) (x2 : Int32) (x3 : Int32) (x4 : Int32) (x5 : Int32) : Option (Int32 × Int32 × Int32 × Int32 × Int32) := some (x1, x2, x3, x4, x5)
set_option maxHeartbeats 4000000 in
set_option maxRecDepth 100000 in
theorem c_T_become (l : Launch) (dC : Nat → ClassId) (dI : Nat → Nat → Nat) (cI cL : ClassId) {ws0 : va_W} (sz : Nat) {kT aT : Nat} {T_domain T_turn T_contrast T_offset T_error : Int32} (x1 : Int32) (x2 : Int32) (x3 : Int32) (x4 : Int32) (x5 : Int32) (hN_T : ws0[kT]? = some (aT, .inr (4, [.int T_domain, .int T_turn, .int T_contrast, .int T_offset, .int T_error]))) (r : Int32 × Int32 × Int32 × Int32 × Int32) (hf : f_T_become x1 x2 x3 x4 x5 = some r) : Met l y_T_become w_T_become rm_T_become (va_Pc [.ref aT, .int x1, .int x2, .int x3, .int x4, .int x5] (zM dC dI cI cL ws0 sz)) (va_Qv (fun ws' : va_W => ws'[kT]? = some (aT, .inr (4, [.int r.1, .int r.2.1, .int r.2.2.1, .int r.2.2.2.1, .int r.2.2.2.2])) ∧ ∀ (j : Nat), j ∉ ([kT] : List Nat) → ws'[j]? = ws0[j]?) (zQ dC dI cI cL (va_A ws0 sz)) (va_A ws0 sz)) 0 0 (va_A ws0 sz) := by
  refine Met.ofW (cc := b_T_become) (maxL := 6) (ret := none) (by decide) rfl ?_
  intro p e s m args below meth c s₁ B hml hv
  obtain ⟨rfl, hsz, hP, hK, hZ, hD0⟩ := hv
  have hx := B.exec
  have hb := B.bytes
  have hr := B.returns
  have hlocks := B.notSynchronized
  have hts : ∀ w ∈ BIG, w.before ([.ref aT, .int x1, .int x2, .int x3, .int x4, .int x5] : List Value).toArray s = true := fun w h => atoms_spec (ws := w_T_become) B.pre w (List.mem_cons_of_mem _ h)
  have hown : s.vm.findClass "FractalMaps$Fit" = some m.cls := findClass_of_methodNamed B.named
  subst hsz
  have hD := hD0.self (sz := s.heap.size)
  generalize hAe : va_A ws0 s.heap.size = A at hD ⊢
  have hA : ∀ q : Nat, s.heap.size ≤ q → A q := fun q h => by rw [← hAe]; exact Or.inr h
  have hS : va_S A s.heap s.heap [] := va_S.rf
  have hw : ∀ (j : Nat), j ∉ ([kT] : List Nat) → ws0[j]? = ws0[j]? := fun _ _ => rfl
  have hl := lv_entry ([.ref aT, .int x1, .int x2, .int x3, .int x4, .int x5]) (n := 6) (Nat.le_of_ble_eq_true rfl)
  rw [lg_entry_eq]
  generalize (lg_sl ([.ref aT, .int x1, .int x2, .int x3, .int x4, .int x5]) ++ List.replicate (6 - (lg_sl ([.ref aT, .int x1, .int x2, .int x3, .int x4, .int x5])).length) Slot.unset).toArray = ls at hl ⊢
  have hl : lv_has ls 6 [(0, .ref aT), (1, .int x1), (2, .int x2), (3, .int x3), (4, .int x4), (5, .int x5)] := hl
  unfold f_T_become at hf
  refine lv_aload_n hx hb d_T_become_0 rfl (lv_at hl 0 rfl) ?_
  refine lv_iload_n hx hb d_T_become_1 rfl (lv_at hl 1 rfl) ?_
  refine pf_T_7 (v := .int x1) hx hb hts hown hK hP hD hS hN_T rfl rfl (Nat.le_of_ble_eq_true rfl) d_T_become_2 (fun ws H locs hP hD hS hN_T hfr => ?_)
  have hN_T : ws[kT]? = some (aT, .inr (4, [.int x1, .int T_turn, .int T_contrast, .int T_offset, .int T_error])) := hN_T
  have hw := z_fr List.mem_cons_self hw hfr
  refine lv_aload_n hx hb d_T_become_5 rfl (lv_at hl 0 rfl) ?_
  refine lv_iload_n hx hb d_T_become_6 rfl (lv_at hl 2 rfl) ?_
  refine pf_T_13 (v := .int x2) hx hb hts hown hK hP hD hS hN_T rfl rfl (Nat.le_of_ble_eq_true rfl) d_T_become_7 (fun ws H locs hP hD hS hN_T hfr => ?_)
  have hN_T : ws[kT]? = some (aT, .inr (4, [.int x1, .int x2, .int T_contrast, .int T_offset, .int T_error])) := hN_T
  have hw := z_fr List.mem_cons_self hw hfr
  refine lv_aload_n hx hb d_T_become_10 rfl (lv_at hl 0 rfl) ?_
  refine lv_iload_n hx hb d_T_become_11 rfl (lv_at hl 3 rfl) ?_
  refine pf_T_16 (v := .int x3) hx hb hts hown hK hP hD hS hN_T rfl rfl (Nat.le_of_ble_eq_true rfl) d_T_become_12 (fun ws H locs hP hD hS hN_T hfr => ?_)
  have hN_T : ws[kT]? = some (aT, .inr (4, [.int x1, .int x2, .int x3, .int T_offset, .int T_error])) := hN_T
  have hw := z_fr List.mem_cons_self hw hfr
  refine lv_aload_n hx hb d_T_become_15 rfl (lv_at hl 0 rfl) ?_
  refine lv_iload hx hb d_T_become_16 (lv_at hl 4 rfl) ?_
  refine pf_T_19 (v := .int x4) hx hb hts hown hK hP hD hS hN_T rfl rfl (Nat.le_of_ble_eq_true rfl) d_T_become_18 (fun ws H locs hP hD hS hN_T hfr => ?_)
  have hN_T : ws[kT]? = some (aT, .inr (4, [.int x1, .int x2, .int x3, .int x4, .int T_error])) := hN_T
  have hw := z_fr List.mem_cons_self hw hfr
  refine lv_aload_n hx hb d_T_become_21 rfl (lv_at hl 0 rfl) ?_
  refine lv_iload hx hb d_T_become_22 (lv_at hl 5 rfl) ?_
  refine pf_T_22 (v := .int x5) hx hb hts hown hK hP hD hS hN_T rfl rfl (Nat.le_of_ble_eq_true rfl) d_T_become_24 (fun ws H locs hP hD hS hN_T hfr => ?_)
  have hN_T : ws[kT]? = some (aT, .inr (4, [.int x1, .int x2, .int x3, .int x4, .int x5])) := hN_T
  have hw := z_fr List.mem_cons_self hw hfr
  obtain rfl := Option.some.inj hf
  exact W.vret hx hb hr (fun t ht hW => ⟨⟨ws, rfl, ⟨hN_T, hw⟩, by rw [ht]; exact hP, va_K.moved hW.alike hK, hD⟩, hS.F ht⟩) hS.2.2 d_T_become_27
