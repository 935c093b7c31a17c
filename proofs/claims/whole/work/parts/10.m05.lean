def f_S_takeBlock_35 (p1 : Int32) (p2 : Int32) (p3 : Int32) (p4 : Int32) (R_n : Nat) : Nat → Int32 → (Nat → Int32) → Option (Int32 × (Nat → Int32))
  | 0, _, _ => none
  | n + 1, v5, R_f => if (8 : Int32) ≤ v5 then (some (v5, R_f)) else ((f_V_sourceQuarter v5 p4).bind (fun q215 => if v5 < 0 ∨ R_n ≤ v5.toNatClampNeg then none else (f_S_takeBlock_35 p1 p2 p3 p4 R_n n (v5 + 1) (upd R_f v5.toNatClampNeg q215))))
def f_S_takeBlock_91 (p1 : Int32) (p2 : Int32) (p3 : Int32) (p4 : Int32) (p6 : Int32) (P_side : Int32) (PA_n : Nat) (PA_f : Nat → Int32) (W_n : Nat) : Nat → Int32 → Int32 → (Nat → Int32) → Option (Int32 × Int32 × (Nat → Int32))
  | 0, _, _, _ => none
  | n + 1, v5, v7, W_f => if p3 ≤ v7 then (some (v5, v7, W_f)) else (if (nI W_n) ≤ v5 then (some (v5, v7, W_f)) else ((f_G_sample (p1 + v7) (p2 + p6) P_side PA_n PA_f).bind (fun q225 => if v5 < 0 ∨ W_n ≤ v5.toNatClampNeg then none else (f_S_takeBlock_91 p1 p2 p3 p4 p6 P_side PA_n PA_f W_n n (v5 + 1) (v7 + 1) (upd W_f v5.toNatClampNeg q225)))))
def f_S_takeBlock_82 (p1 : Int32) (p2 : Int32) (p3 : Int32) (p4 : Int32) (P_side : Int32) (PA_n : Nat) (PA_f : Nat → Int32) (W_n : Nat) : Nat → Int32 → Int32 → (Nat → Int32) → Option (Int32 × Int32 × (Nat → Int32))
  | 0, _, _, _ => none
  | n + 1, v5, v6, W_f => if p3 ≤ v6 then (some (v5, v6, W_f)) else ((f_S_takeBlock_91 p1 p2 p3 p4 v6 P_side PA_n PA_f W_n FU v5 (0 : Int32) W_f).bind (fun q227 => f_S_takeBlock_82 p1 p2 p3 p4 P_side PA_n PA_f W_n n q227.1 (v6 + 1) q227.2.2))
def f_S_takeBlock (x1 : Int32) (x2 : Int32) (x3 : Int32) (P_side : Int32) (PA_n : Nat) (PA_f : Nat → Int32) (W_n : Nat) (W_f : Nat → Int32) (R_n : Nat) (R_f : Nat → Int32) : Option (Int32 × Int32 × Int32 × (Nat → Int32) × (Nat → Int32)) := (f_G_brightestQuarter x1 x2 x3 P_side PA_n PA_f).bind (fun q213 => (f_S_takeBlock_35 x1 x2 x3 q213 R_n FU (0 : Int32) R_f).bind (fun q217 => (f_G_sum x1 x2 x3 P_side PA_n PA_f).bind (fun q223 => (f_S_takeBlock_82 x1 x2 x3 q213 P_side PA_n PA_f W_n FU (0 : Int32) (0 : Int32) W_f).bind (fun q234 => some (x3, (if (nI W_n) < (x3 * x3) then (nI W_n) else (x3 * x3)), q223, q234.2.2, q217.2)))))
set_option maxHeartbeats 4000000 in
set_option maxRecDepth 100000 in
theorem c_S_takeBlock (l : Launch) (dC : Nat → ClassId) (dI : Nat → Nat → Nat) (cI cL : ClassId) {ws0 : va_W} (sz : Nat) {aS aP aH aV aW aD aQ aR aE aPA : Nat} {S_tried S_size S_count S_wantedSum S_foundSum S_foundSquares P_mostSide P_side : Int32} {PA_n W_n R_n : Nat} {PA_f W_f R_f : Nat → Int32} (x1 : Int32) (x2 : Int32) (x3 : Int32) (hN_S : zA ws0 8 (aS, .inr (3, [.ref aP, .ref aH, .ref aV, .ref aW, .ref aD, .ref aQ, .ref aR, .ref aE, .int S_tried, .int S_size, .int S_count, .int S_wantedSum, .int S_foundSum, .int S_foundSquares]))) (hN_P : zA ws0 1 (aP, .inr (1, [.int P_mostSide, .ref aPA, .int P_side]))) (hN_PA : zA ws0 2 (aPA, .inl (cI, PA_n, .inl PA_f))) (hN_W : zA ws0 9 (aW, .inl (cI, W_n, .inl W_f))) (hN_R : zA ws0 12 (aR, .inl (cI, R_n, .inl R_f))) (r : Int32 × Int32 × Int32 × (Nat → Int32) × (Nat → Int32)) (hf : f_S_takeBlock x1 x2 x3 P_side PA_n PA_f W_n W_f R_n R_f = some r) : Met l y_S_takeBlock w_S_takeBlock rm_S_takeBlock (va_Pc [.ref aS, .int x1, .int x2, .int x3] (zM dC dI cI cL ws0 sz)) (va_Qv (fun ws' : va_W => zA ws' 8 (aS, .inr (3, [.ref aP, .ref aH, .ref aV, .ref aW, .ref aD, .ref aQ, .ref aR, .ref aE, .int S_tried, .int r.1, .int r.2.1, .int r.2.2.1, .int S_foundSum, .int S_foundSquares])) ∧ zA ws' 9 (aW, .inl (cI, W_n, .inl r.2.2.2.1)) ∧ zA ws' 12 (aR, .inl (cI, R_n, .inl r.2.2.2.2)) ∧ ∀ (j : Nat), j ∉ ([8, 9, 12] : List Nat) → ws'[j]? = ws0[j]?) (zQ dC dI cI cL (va_A ws0 sz)) (va_A ws0 sz)) 0 0 (va_A ws0 sz) := by
  refine Met.ofW (cc := b_S_takeBlock) (maxL := 8) (ret := none) (by decide) rfl ?_
  intro p e s m args below meth c s₁ B hml hv
  obtain ⟨rfl, hsz, hP, hK, hZ, hD0⟩ := hv
  have hx := B.exec
  have hb := B.bytes
  have hr := B.returns
  have hlocks := B.notSynchronized
  have hts : ∀ w ∈ BIG, w.before ([.ref aS, .int x1, .int x2, .int x3] : List Value).toArray s = true := fun w h => atoms_spec (ws := w_S_takeBlock) B.pre w (List.mem_cons_of_mem _ h)
  have hown : s.vm.findClass "FractalMaps$Search" = some m.cls := findClass_of_methodNamed B.named
  subst hsz
  have hD := hD0.self (sz := s.heap.size)
  generalize hAe : va_A ws0 s.heap.size = A at hD ⊢
  have hA : ∀ q : Nat, s.heap.size ≤ q → A q := fun q h => by rw [← hAe]; exact Or.inr h
  have hS : va_S A s.heap s.heap [] := va_S.rf
  have hw : ∀ (j : Nat), j ∉ ([8, 9, 12] : List Nat) → ws0[j]? = ws0[j]? := fun _ _ => rfl
  have hl := lv_entry ([.ref aS, .int x1, .int x2, .int x3]) (n := 8) (Nat.le_of_ble_eq_true rfl)
  rw [lg_entry_eq]
  generalize (lg_sl ([.ref aS, .int x1, .int x2, .int x3]) ++ List.replicate (8 - (lg_sl ([.ref aS, .int x1, .int x2, .int x3])).length) Slot.unset).toArray = ls at hl ⊢
  have hl : lv_has ls 8 [(0, .ref aS), (1, .int x1), (2, .int x2), (3, .int x3)] := hl
  unfold f_S_takeBlock at hf
  refine lv_aload_n hx hb d_S_takeBlock_0 rfl (lv_at hl 0 rfl) ?_
  refine lv_iload_n hx hb d_S_takeBlock_1 rfl (lv_at hl 3 rfl) ?_
  refine pf_S_78 (v := .int x3) hx hb hts hown hK hP hD hS hN_S rfl rfl (Nat.le_of_ble_eq_true rfl) d_S_takeBlock_2 (fun ws H locs hP hD hS hN_S hfr => ?_)
  have hN_S : zA ws 8 (aS, .inr (3, [.ref aP, .ref aH, .ref aV, .ref aW, .ref aD, .ref aQ, .ref aR, .ref aE, .int S_tried, .int x3, .int S_count, .int S_wantedSum, .int S_foundSum, .int S_foundSquares])) := hN_S
  have hN_P := (hfr _ (by decide)).trans hN_P
  have hN_PA := (hfr _ (by decide)).trans hN_PA
  have hN_W := (hfr _ (by decide)).trans hN_W
  have hN_R := (hfr _ (by decide)).trans hN_R
  have hw := z_fr (by decide) hw hfr
  refine lv_aload_n hx hb d_S_takeBlock_5 rfl (lv_at hl 0 rfl) ?_
  refine lv_iload_n hx hb d_S_takeBlock_6 rfl (lv_at hl 3 rfl) ?_
  refine lv_iload_n hx hb d_S_takeBlock_7 rfl (lv_at hl 3 rfl) ?_
  refine lv_imul hx hb d_S_takeBlock_8 ?_
  refine lv_aload_n hx hb d_S_takeBlock_9 rfl (lv_at hl 0 rfl) ?_
  refine gf_S_28 (v := .ref aW) hx hb hts hown hK hP hN_S rfl d_S_takeBlock_10 ?_
  refine va_alen (v := nI W_n) hx hb hK hP _ 0 hN_W rfl rfl d_S_takeBlock_13 ?_
  refine mm_S_81 hx hb (hml.trans hl.1.symm) hown hts (Nat.le_of_ble_eq_true rfl) (Nat.le_of_ble_eq_true rfl) (Nat.zero_le _) (Nat.zero_le _) d_S_takeBlock_14 ?_
  refine pf_S_86 (v := .int (if (nI W_n) < (x3 * x3) then (nI W_n) else (x3 * x3))) hx hb hts hown hK hP hD hS hN_S rfl rfl (Nat.le_of_ble_eq_true rfl) d_S_takeBlock_17 (fun ws H locs hP hD hS hN_S hfr => ?_)
  have hN_S : zA ws 8 (aS, .inr (3, [.ref aP, .ref aH, .ref aV, .ref aW, .ref aD, .ref aQ, .ref aR, .ref aE, .int S_tried, .int x3, .int (if (nI W_n) < (x3 * x3) then (nI W_n) else (x3 * x3)), .int S_wantedSum, .int S_foundSum, .int S_foundSquares])) := hN_S
  have hN_P := (hfr _ (by decide)).trans hN_P
  have hN_PA := (hfr _ (by decide)).trans hN_PA
  have hN_W := (hfr _ (by decide)).trans hN_W
  have hN_R := (hfr _ (by decide)).trans hN_R
  have hw := z_fr (by decide) hw hfr
  refine lv_aload_n hx hb d_S_takeBlock_20 rfl (lv_at hl 0 rfl) ?_
  refine gf_S_9 (v := .ref aP) hx hb hts hown hK hP hN_S rfl d_S_takeBlock_21 ?_
  refine lv_iload_n hx hb d_S_takeBlock_24 rfl (lv_at hl 1 rfl) ?_
  refine lv_iload_n hx hb d_S_takeBlock_25 rfl (lv_at hl 2 rfl) ?_
  refine lv_iload_n hx hb d_S_takeBlock_26 rfl (lv_at hl 3 rfl) ?_
  obtain ⟨q213, hc, hf⟩ := z_b hf
  refine vp_callSi (z_cr (va_runV (As := [.int x1, .int x2, .int x3]) (rest := []) ⟨hx, hb, hml, hown, hts⟩ (c_G_brightestQuarter l dC dI cI cL x1 x2 x3 hN_P hN_PA q213 hc) (cw_S_89 hts ⟨Nat.le_of_ble_eq_true rfl, Nat.le_of_ble_eq_true rfl⟩) ⟨zbR, va_recv hK hP (ci := 1) rfl hN_P, (zpR hP hK hZ)⟩ rfl rfl hl.1 rfl (lv_room (Nat.le_of_ble_eq_true rfl)) d_S_takeBlock_27 ⟨Nat.zero_le _, Nat.zero_le _⟩)) (fun r214 hv => ?_)
  have hv := hv.symm
  subst hv
  refine lv_istore (lv' := [(4, .int q213), (0, .ref aS), (1, .int x1), (2, .int x2), (3, .int x3)]) hx hb d_S_takeBlock_30 hl (by decide) rfl (fun ls hl => ?_)
  refine lv_iconst (v := 0) hx hb d_S_takeBlock_32 (by decide) ?_
  refine lv_istore (lv' := [(5, .int (0 : Int32)), (4, .int q213), (0, .ref aS), (1, .int x1), (2, .int x2), (3, .int x3)]) hx hb d_S_takeBlock_33 hl (by decide) rfl (fun ls hl => ?_)
  have lp220 : ∀ (Qx : State → Prop) (n : Nat) (v5_218 : Int32) (R_f_219 : Nat → Int32) (ws : va_W) (H : Heap) (locs : List Loc) (ls : Array Slot) (q : Int32 × (Nat → Int32)) (hf : f_S_takeBlock_35 x1 x2 x3 q213 R_n n v5_218 R_f_219 = some q) (hl : lv_has ls 8 [(0, .ref aS), (1, .int x1), (2, .int x2), (3, .int x3), (4, .int q213), (5, .int v5_218)]) (hP : va_P (dC, dI) classes ws H) (hD : va_D A ws) (hS : va_S A s.heap H locs) (hN_S : zA ws 8 (aS, .inr (3, [.ref aP, .ref aH, .ref aV, .ref aW, .ref aD, .ref aQ, .ref aR, .ref aE, .int S_tried, .int x3, .int (if (nI W_n) < (x3 * x3) then (nI W_n) else (x3 * x3)), .int S_wantedSum, .int S_foundSum, .int S_foundSquares]))) (hN_P : zA ws 1 (aP, .inr (1, [.int P_mostSide, .ref aPA, .int P_side]))) (hN_PA : zA ws 2 (aPA, .inl (cI, PA_n, .inl PA_f))) (hN_W : zA ws 9 (aW, .inl (cI, W_n, .inl W_f))) (hN_R : zA ws 12 (aR, .inl (cI, R_n, .inl R_f_219))) (hw : ∀ (j : Nat), j ∉ ([8, 9, 12] : List Nat) → ws[j]? = ws0[j]?) (kt0 : ∀ (ws : va_W) (H : Heap) (locs : List Loc) (ls : Array Slot), lv_has ls 8 [(0, .ref aS), (1, .int x1), (2, .int x2), (3, .int x3), (4, .int q213), (5, .int q.1)] → (va_P (dC, dI) classes ws H) → (va_D A ws) → (va_S A s.heap H locs) → (zA ws 8 (aS, .inr (3, [.ref aP, .ref aH, .ref aV, .ref aW, .ref aD, .ref aQ, .ref aR, .ref aE, .int S_tried, .int x3, .int (if (nI W_n) < (x3 * x3) then (nI W_n) else (x3 * x3)), .int S_wantedSum, .int S_foundSum, .int S_foundSquares]))) → (zA ws 1 (aP, .inr (1, [.int P_mostSide, .ref aPA, .int P_side]))) → (zA ws 2 (aPA, .inl (cI, PA_n, .inl PA_f))) → (zA ws 9 (aW, .inl (cI, W_n, .inl W_f))) → (zA ws 12 (aR, .inl (cI, R_n, .inl q.2))) → (∀ (j : Nat), j ∉ ([8, 9, 12] : List Nat) → ws[j]? = ws0[j]?) → W p l e (headSpec w_S_takeBlock rm_S_takeBlock).room s m ([.ref aS, .int x1, .int x2, .int x3] : List Value).toArray below meth c H locs 0 0 Qx (F0 m 62 ls [])), W p l e (headSpec w_S_takeBlock rm_S_takeBlock).room s m ([.ref aS, .int x1, .int x2, .int x3] : List Value).toArray below meth c H locs 0 0 Qx (F0 m 35 ls []) := by
    intro Qx n
    induction n with
    | zero => intro v5_218 R_f_219 ws H locs ls q hf; cases hf
    | succ n ih =>
      intro v5_218 R_f_219 ws H locs ls q hf hl hP hD hS hN_S hN_P hN_PA hN_W hN_R hw kt0
      rw [f_S_takeBlock_35] at hf
      refine lv_iload hx hb d_S_takeBlock_35 (lv_at hl 5 rfl) ?_
      refine lv_bipush (v := 8) hx hb d_S_takeBlock_37 (by decide) ?_
      refine lv_icmp_ge (tgt := 62) hx hb d_S_takeBlock_39 (by decide) (fun hc => ?_) (fun hc => ?_)
      · have hf := z_t hc hf
        obtain rfl := Option.some.inj hf
        exact kt0 _ _ _ ls (lv_sub hl [0, 1, 2, 3, 4, 5] rfl) hP hD hS hN_S hN_P hN_PA hN_W hN_R hw
      · have hf := z_f hc hf
        refine lv_aload_n hx hb d_S_takeBlock_42 rfl (lv_at hl 0 rfl) ?_
        refine gf_S_37 (v := .ref aR) hx hb hts hown hK hP hN_S rfl d_S_takeBlock_43 ?_
        refine lv_iload hx hb d_S_takeBlock_46 (lv_at hl 5 rfl) ?_
        refine lv_iload hx hb d_S_takeBlock_48 (lv_at hl 5 rfl) ?_
        refine lv_iload hx hb d_S_takeBlock_50 (lv_at hl 4 rfl) ?_
        obtain ⟨q221, hc, hf⟩ := z_b hf
        refine vp_callSi (z_cr (va_runS (As := [.int v5_218, .int q213]) (rest := [.int v5_218, .ref aR]) ⟨hx, hb, hml, hown, hts⟩ (c_V_sourceQuarter l v5_218 q213 q221 hc) (cw_S_93 hts ⟨Nat.le_of_ble_eq_true rfl, Nat.le_of_ble_eq_true rfl⟩) ⟨zbN, (zpN hZ)⟩ rfl rfl hl.1 rfl (lv_room (Nat.le_of_ble_eq_true rfl)) d_S_takeBlock_52 ⟨Nat.zero_le _, Nat.zero_le _⟩)) (fun r222 hv => ?_)
        have hv := hv.symm
        subst hv
        obtain ⟨hin, hf⟩ := z_no hf
        refine z_iast hx hb hK hP hD hS hN_R rfl hin d_S_takeBlock_55 (fun ws H locs hP hD hS hN_R hfr => ?_)
        have hN_R : zA ws 12 (aR, .inl (cI, R_n, .inl (upd R_f_219 v5_218.toNatClampNeg q221))) := hN_R
        have hN_S := (hfr _ (by decide)).trans hN_S
        have hN_P := (hfr _ (by decide)).trans hN_P
        have hN_PA := (hfr _ (by decide)).trans hN_PA
        have hN_W := (hfr _ (by decide)).trans hN_W
        have hw := z_fr (by decide) hw hfr
        refine lv_iinc (v := (v5_218 + 1)) (lv' := [(5, .int (v5_218 + 1)), (0, .ref aS), (1, .int x1), (2, .int x2), (3, .int x3), (4, .int q213)]) hx hb d_S_takeBlock_56 hl (k := 5) rfl rfl (by decide) rfl (fun ls hl => ?_)
        refine lv_goto (tgt := 35) hx hb d_S_takeBlock_59 (by decide) ?_
        exact ih (v5_218 + 1) (upd R_f_219 v5_218.toNatClampNeg q221) _ _ _ ls _ hf (lv_sub hl [1, 2, 3, 4, 5, 0] rfl) hP hD hS hN_S hN_P hN_PA hN_W hN_R hw kt0
  obtain ⟨q217, hc, hf⟩ := z_b hf
  refine lp220 _ FU (0 : Int32) R_f _ _ _ ls q217 hc (lv_sub hl [2, 3, 4, 5, 1, 0] rfl) hP hD hS hN_S hN_P hN_PA hN_W hN_R hw (fun ws H locs ls hl hP hD hS hN_S hN_P hN_PA hN_W hN_R hw => ?_)
  refine lv_aload_n hx hb d_S_takeBlock_62 rfl (lv_at hl 0 rfl) ?_
  refine lv_aload_n hx hb d_S_takeBlock_63 rfl (lv_at hl 0 rfl) ?_
  refine gf_S_9 (v := .ref aP) hx hb hts hown hK hP hN_S rfl d_S_takeBlock_64 ?_
  refine lv_iload_n hx hb d_S_takeBlock_67 rfl (lv_at hl 1 rfl) ?_
  refine lv_iload_n hx hb d_S_takeBlock_68 rfl (lv_at hl 2 rfl) ?_
  refine lv_iload_n hx hb d_S_takeBlock_69 rfl (lv_at hl 3 rfl) ?_
  obtain ⟨q223, hc, hf⟩ := z_b hf
  refine vp_callSi (z_cr (va_runV (As := [.int x1, .int x2, .int x3]) (rest := [.ref aS]) ⟨hx, hb, hml, hown, hts⟩ (c_G_sum l dC dI cI cL x1 x2 x3 hN_P hN_PA q223 hc) (cw_S_98 hts ⟨Nat.le_of_ble_eq_true rfl, Nat.le_of_ble_eq_true rfl⟩) ⟨zbR, va_recv hK hP (ci := 1) rfl hN_P, (zpR hP hK hZ)⟩ rfl rfl hl.1 rfl (lv_room (Nat.le_of_ble_eq_true rfl)) d_S_takeBlock_70 ⟨Nat.zero_le _, Nat.zero_le _⟩)) (fun r224 hv => ?_)
  have hv := hv.symm
  subst hv
  refine pf_S_101 (v := .int q223) hx hb hts hown hK hP hD hS hN_S rfl rfl (Nat.le_of_ble_eq_true rfl) d_S_takeBlock_73 (fun ws H locs hP hD hS hN_S hfr => ?_)
  have hN_S : zA ws 8 (aS, .inr (3, [.ref aP, .ref aH, .ref aV, .ref aW, .ref aD, .ref aQ, .ref aR, .ref aE, .int S_tried, .int x3, .int (if (nI W_n) < (x3 * x3) then (nI W_n) else (x3 * x3)), .int q223, .int S_foundSum, .int S_foundSquares])) := hN_S
  have hN_P := (hfr _ (by decide)).trans hN_P
  have hN_PA := (hfr _ (by decide)).trans hN_PA
  have hN_W := (hfr _ (by decide)).trans hN_W
  have hN_R := (hfr _ (by decide)).trans hN_R
  have hw := z_fr (by decide) hw hfr
  refine lv_iconst (v := 0) hx hb d_S_takeBlock_76 (by decide) ?_
  refine lv_istore (lv' := [(5, .int (0 : Int32)), (0, .ref aS), (1, .int x1), (2, .int x2), (3, .int x3), (4, .int q213)]) hx hb d_S_takeBlock_77 hl (by decide) rfl (fun ls hl => ?_)
  refine lv_iconst (v := 0) hx hb d_S_takeBlock_79 (by decide) ?_
  refine lv_istore (lv' := [(6, .int (0 : Int32)), (5, .int (0 : Int32)), (0, .ref aS), (1, .int x1), (2, .int x2), (3, .int x3), (4, .int q213)]) hx hb d_S_takeBlock_80 hl (by decide) rfl (fun ls hl => ?_)
  have lp238 : ∀ (Qx : State → Prop) (n : Nat) (v5_235 : Int32) (v6_236 : Int32) (W_f_237 : Nat → Int32) (ws : va_W) (H : Heap) (locs : List Loc) (ls : Array Slot) (q : Int32 × Int32 × (Nat → Int32)) (hf : f_S_takeBlock_82 x1 x2 x3 q213 P_side PA_n PA_f W_n n v5_235 v6_236 W_f_237 = some q) (hl : lv_has ls 8 [(0, .ref aS), (1, .int x1), (2, .int x2), (3, .int x3), (4, .int q213), (5, .int v5_235), (6, .int v6_236)]) (hP : va_P (dC, dI) classes ws H) (hD : va_D A ws) (hS : va_S A s.heap H locs) (hN_S : zA ws 8 (aS, .inr (3, [.ref aP, .ref aH, .ref aV, .ref aW, .ref aD, .ref aQ, .ref aR, .ref aE, .int S_tried, .int x3, .int (if (nI W_n) < (x3 * x3) then (nI W_n) else (x3 * x3)), .int q223, .int S_foundSum, .int S_foundSquares]))) (hN_P : zA ws 1 (aP, .inr (1, [.int P_mostSide, .ref aPA, .int P_side]))) (hN_PA : zA ws 2 (aPA, .inl (cI, PA_n, .inl PA_f))) (hN_W : zA ws 9 (aW, .inl (cI, W_n, .inl W_f_237))) (hN_R : zA ws 12 (aR, .inl (cI, R_n, .inl q217.2))) (hw : ∀ (j : Nat), j ∉ ([8, 9, 12] : List Nat) → ws[j]? = ws0[j]?) (kt0 : ∀ (ws : va_W) (H : Heap) (locs : List Loc) (ls : Array Slot), lv_has ls 8 [(0, .ref aS), (1, .int x1), (2, .int x2), (3, .int x3), (4, .int q213), (5, .int q.1), (6, .int q.2.1)] → (va_P (dC, dI) classes ws H) → (va_D A ws) → (va_S A s.heap H locs) → (zA ws 8 (aS, .inr (3, [.ref aP, .ref aH, .ref aV, .ref aW, .ref aD, .ref aQ, .ref aR, .ref aE, .int S_tried, .int x3, .int (if (nI W_n) < (x3 * x3) then (nI W_n) else (x3 * x3)), .int q223, .int S_foundSum, .int S_foundSquares]))) → (zA ws 1 (aP, .inr (1, [.int P_mostSide, .ref aPA, .int P_side]))) → (zA ws 2 (aPA, .inl (cI, PA_n, .inl PA_f))) → (zA ws 9 (aW, .inl (cI, W_n, .inl q.2.2))) → (zA ws 12 (aR, .inl (cI, R_n, .inl q217.2))) → (∀ (j : Nat), j ∉ ([8, 9, 12] : List Nat) → ws[j]? = ws0[j]?) → W p l e (headSpec w_S_takeBlock rm_S_takeBlock).room s m ([.ref aS, .int x1, .int x2, .int x3] : List Value).toArray below meth c H locs 0 0 Qx (F0 m 144 ls [])), W p l e (headSpec w_S_takeBlock rm_S_takeBlock).room s m ([.ref aS, .int x1, .int x2, .int x3] : List Value).toArray below meth c H locs 0 0 Qx (F0 m 82 ls []) := by
    intro Qx n
    induction n with
    | zero => intro v5_235 v6_236 W_f_237 ws H locs ls q hf; cases hf
    | succ n ih =>
      intro v5_235 v6_236 W_f_237 ws H locs ls q hf hl hP hD hS hN_S hN_P hN_PA hN_W hN_R hw kt0
      rw [f_S_takeBlock_82] at hf
      refine lv_iload hx hb d_S_takeBlock_82 (lv_at hl 6 rfl) ?_
      refine lv_iload_n hx hb d_S_takeBlock_84 rfl (lv_at hl 3 rfl) ?_
      refine lv_icmp_ge (tgt := 144) hx hb d_S_takeBlock_85 (by decide) (fun hc => ?_) (fun hc => ?_)
      · have hf := z_t hc hf
        obtain rfl := Option.some.inj hf
        exact kt0 _ _ _ ls (lv_sub hl [0, 1, 2, 3, 4, 5, 6] rfl) hP hD hS hN_S hN_P hN_PA hN_W hN_R hw
      · have hf := z_f hc hf
        refine lv_iconst (v := 0) hx hb d_S_takeBlock_88 (by decide) ?_
        refine lv_istore (lv' := [(7, .int (0 : Int32)), (0, .ref aS), (1, .int x1), (2, .int x2), (3, .int x3), (4, .int q213), (5, .int v5_235), (6, .int v6_236)]) hx hb d_S_takeBlock_89 hl (by decide) rfl (fun ls hl => ?_)
        have lp243 : ∀ (Qx : State → Prop) (n : Nat) (v5_240 : Int32) (v7_241 : Int32) (W_f_242 : Nat → Int32) (ws : va_W) (H : Heap) (locs : List Loc) (ls : Array Slot) (q : Int32 × Int32 × (Nat → Int32)) (hf : f_S_takeBlock_91 x1 x2 x3 q213 v6_236 P_side PA_n PA_f W_n n v5_240 v7_241 W_f_242 = some q) (hl : lv_has ls 8 [(0, .ref aS), (1, .int x1), (2, .int x2), (3, .int x3), (4, .int q213), (5, .int v5_240), (6, .int v6_236), (7, .int v7_241)]) (hP : va_P (dC, dI) classes ws H) (hD : va_D A ws) (hS : va_S A s.heap H locs) (hN_S : zA ws 8 (aS, .inr (3, [.ref aP, .ref aH, .ref aV, .ref aW, .ref aD, .ref aQ, .ref aR, .ref aE, .int S_tried, .int x3, .int (if (nI W_n) < (x3 * x3) then (nI W_n) else (x3 * x3)), .int q223, .int S_foundSum, .int S_foundSquares]))) (hN_P : zA ws 1 (aP, .inr (1, [.int P_mostSide, .ref aPA, .int P_side]))) (hN_PA : zA ws 2 (aPA, .inl (cI, PA_n, .inl PA_f))) (hN_W : zA ws 9 (aW, .inl (cI, W_n, .inl W_f_242))) (hN_R : zA ws 12 (aR, .inl (cI, R_n, .inl q217.2))) (hw : ∀ (j : Nat), j ∉ ([8, 9, 12] : List Nat) → ws[j]? = ws0[j]?) (kt0 : ∀ (ws : va_W) (H : Heap) (locs : List Loc) (ls : Array Slot), lv_has ls 8 [(0, .ref aS), (1, .int x1), (2, .int x2), (3, .int x3), (4, .int q213), (5, .int q.1), (6, .int v6_236), (7, .int q.2.1)] → (va_P (dC, dI) classes ws H) → (va_D A ws) → (va_S A s.heap H locs) → (zA ws 8 (aS, .inr (3, [.ref aP, .ref aH, .ref aV, .ref aW, .ref aD, .ref aQ, .ref aR, .ref aE, .int S_tried, .int x3, .int (if (nI W_n) < (x3 * x3) then (nI W_n) else (x3 * x3)), .int q223, .int S_foundSum, .int S_foundSquares]))) → (zA ws 1 (aP, .inr (1, [.int P_mostSide, .ref aPA, .int P_side]))) → (zA ws 2 (aPA, .inl (cI, PA_n, .inl PA_f))) → (zA ws 9 (aW, .inl (cI, W_n, .inl q.2.2))) → (zA ws 12 (aR, .inl (cI, R_n, .inl q217.2))) → (∀ (j : Nat), j ∉ ([8, 9, 12] : List Nat) → ws[j]? = ws0[j]?) → W p l e (headSpec w_S_takeBlock rm_S_takeBlock).room s m ([.ref aS, .int x1, .int x2, .int x3] : List Value).toArray below meth c H locs 0 0 Qx (F0 m 138 ls [])), W p l e (headSpec w_S_takeBlock rm_S_takeBlock).room s m ([.ref aS, .int x1, .int x2, .int x3] : List Value).toArray below meth c H locs 0 0 Qx (F0 m 91 ls []) := by
          intro Qx n
          induction n with
          | zero => intro v5_240 v7_241 W_f_242 ws H locs ls q hf; cases hf
          | succ n ih =>
            intro v5_240 v7_241 W_f_242 ws H locs ls q hf hl hP hD hS hN_S hN_P hN_PA hN_W hN_R hw kt0
            rw [f_S_takeBlock_91] at hf
            refine lv_iload hx hb d_S_takeBlock_91 (lv_at hl 7 rfl) ?_
            refine lv_iload_n hx hb d_S_takeBlock_93 rfl (lv_at hl 3 rfl) ?_
            refine lv_icmp_ge (tgt := 138) hx hb d_S_takeBlock_94 (by decide) (fun hc => ?_) (fun hc => ?_)
            · have hf := z_t hc hf
              obtain rfl := Option.some.inj hf
              exact kt0 _ _ _ ls (lv_sub hl [0, 1, 2, 3, 4, 5, 6, 7] rfl) hP hD hS hN_S hN_P hN_PA hN_W hN_R hw
            · have hf := z_f hc hf
              refine lv_iload hx hb d_S_takeBlock_97 (lv_at hl 5 rfl) ?_
              refine lv_aload_n hx hb d_S_takeBlock_99 rfl (lv_at hl 0 rfl) ?_
              refine gf_S_28 (v := .ref aW) hx hb hts hown hK hP hN_S rfl d_S_takeBlock_100 ?_
              refine va_alen (v := nI W_n) hx hb hK hP _ 0 hN_W rfl rfl d_S_takeBlock_103 ?_
              refine lv_icmp_ge (tgt := 138) hx hb d_S_takeBlock_104 (by decide) (fun hc => ?_) (fun hc => ?_)
              · have hf := z_t hc hf
                obtain rfl := Option.some.inj hf
                exact kt0 _ _ _ ls (lv_sub hl [0, 1, 2, 3, 4, 5, 6, 7] rfl) hP hD hS hN_S hN_P hN_PA hN_W hN_R hw
              · have hf := z_f hc hf
                refine lv_aload_n hx hb d_S_takeBlock_107 rfl (lv_at hl 0 rfl) ?_
                refine gf_S_28 (v := .ref aW) hx hb hts hown hK hP hN_S rfl d_S_takeBlock_108 ?_
                refine lv_iload hx hb d_S_takeBlock_111 (lv_at hl 5 rfl) ?_
                refine lv_aload_n hx hb d_S_takeBlock_113 rfl (lv_at hl 0 rfl) ?_
                refine gf_S_9 (v := .ref aP) hx hb hts hown hK hP hN_S rfl d_S_takeBlock_114 ?_
                refine lv_iload_n hx hb d_S_takeBlock_117 rfl (lv_at hl 1 rfl) ?_
                refine lv_iload hx hb d_S_takeBlock_118 (lv_at hl 7 rfl) ?_
                refine lv_iadd hx hb d_S_takeBlock_120 ?_
                refine lv_iload_n hx hb d_S_takeBlock_121 rfl (lv_at hl 2 rfl) ?_
                refine lv_iload hx hb d_S_takeBlock_122 (lv_at hl 6 rfl) ?_
                refine lv_iadd hx hb d_S_takeBlock_124 ?_
                obtain ⟨q244, hc, hf⟩ := z_b hf
                refine vp_callSi (z_cr (va_runV (As := [.int (x1 + v7_241), .int (x2 + v6_236)]) (rest := [.int v5_240, .ref aW]) ⟨hx, hb, hml, hown, hts⟩ (c_G_sample l dC dI cI cL (x1 + v7_241) (x2 + v6_236) hN_P hN_PA q244 hc) (cw_S_104 hts ⟨Nat.le_of_ble_eq_true rfl, Nat.le_of_ble_eq_true rfl⟩) ⟨zbR, va_recv hK hP (ci := 1) rfl hN_P, (zpR hP hK hZ)⟩ rfl rfl hl.1 rfl (lv_room (Nat.le_of_ble_eq_true rfl)) d_S_takeBlock_125 ⟨Nat.zero_le _, Nat.zero_le _⟩)) (fun r245 hv => ?_)
                have hv := hv.symm
                subst hv
                obtain ⟨hin, hf⟩ := z_no hf
                refine z_iast hx hb hK hP hD hS hN_W rfl hin d_S_takeBlock_128 (fun ws H locs hP hD hS hN_W hfr => ?_)
                have hN_W : zA ws 9 (aW, .inl (cI, W_n, .inl (upd W_f_242 v5_240.toNatClampNeg q244))) := hN_W
                have hN_S := (hfr _ (by decide)).trans hN_S
                have hN_P := (hfr _ (by decide)).trans hN_P
                have hN_PA := (hfr _ (by decide)).trans hN_PA
                have hN_R := (hfr _ (by decide)).trans hN_R
                have hw := z_fr (by decide) hw hfr
                refine lv_iinc (v := (v5_240 + 1)) (lv' := [(5, .int (v5_240 + 1)), (0, .ref aS), (1, .int x1), (2, .int x2), (3, .int x3), (4, .int q213), (6, .int v6_236), (7, .int v7_241)]) hx hb d_S_takeBlock_129 hl (k := 5) rfl rfl (by decide) rfl (fun ls hl => ?_)
                refine lv_iinc (v := (v7_241 + 1)) (lv' := [(7, .int (v7_241 + 1)), (5, .int (v5_240 + 1)), (0, .ref aS), (1, .int x1), (2, .int x2), (3, .int x3), (4, .int q213), (6, .int v6_236)]) hx hb d_S_takeBlock_132 hl (k := 7) rfl rfl (by decide) rfl (fun ls hl => ?_)
                refine lv_goto (tgt := 91) hx hb d_S_takeBlock_135 (by decide) ?_
                exact ih (v5_240 + 1) (v7_241 + 1) (upd W_f_242 v5_240.toNatClampNeg q244) _ _ _ ls _ hf (lv_sub hl [2, 3, 4, 5, 6, 1, 7, 0] rfl) hP hD hS hN_S hN_P hN_PA hN_W hN_R hw kt0
        obtain ⟨q239, hc, hf⟩ := z_b hf
        refine lp243 _ FU v5_235 (0 : Int32) W_f_237 _ _ _ ls q239 hc (lv_sub hl [1, 2, 3, 4, 5, 6, 7, 0] rfl) hP hD hS hN_S hN_P hN_PA hN_W hN_R hw (fun ws H locs ls hl hP hD hS hN_S hN_P hN_PA hN_W hN_R hw => ?_)
        refine lv_iinc (v := (v6_236 + 1)) (lv' := [(6, .int (v6_236 + 1)), (0, .ref aS), (1, .int x1), (2, .int x2), (3, .int x3), (4, .int q213), (5, .int q239.1), (7, .int q239.2.1)]) hx hb d_S_takeBlock_138 hl (k := 6) rfl rfl (by decide) rfl (fun ls hl => ?_)
        refine lv_goto (tgt := 82) hx hb d_S_takeBlock_141 (by decide) ?_
        exact ih q239.1 (v6_236 + 1) q239.2.2 _ _ _ ls _ hf (lv_sub hl [1, 2, 3, 4, 5, 6, 0] rfl) hP hD hS hN_S hN_P hN_PA hN_W hN_R hw kt0
  obtain ⟨q234, hc, hf⟩ := z_b hf
  refine lp238 _ FU (0 : Int32) (0 : Int32) W_f _ _ _ ls q234 hc (lv_sub hl [2, 3, 4, 5, 6, 1, 0] rfl) hP hD hS hN_S hN_P hN_PA hN_W hN_R hw (fun ws H locs ls hl hP hD hS hN_S hN_P hN_PA hN_W hN_R hw => ?_)
  obtain rfl := Option.some.inj hf
  exact W.vret hx hb hr (fun t ht hW => ⟨⟨ws, rfl, ⟨hN_S, hN_W, hN_R, hw⟩, by rw [ht]; exact hP, va_K.moved hW.alike hK, hD⟩, hS.F ht⟩) hS.2.2 d_S_takeBlock_144
def f_T_become (x1 : Int32) (x2 : Int32) (x3 : Int32) (x4 : Int32) (x5 : Int32) : Option (Int32 × Int32 × Int32 × Int32 × Int32) := some (x1, x2, x3, x4, x5)
set_option maxHeartbeats 4000000 in
set_option maxRecDepth 100000 in
theorem c_T_become (l : Launch) (dC : Nat → ClassId) (dI : Nat → Nat → Nat) (cI cL : ClassId) {ws0 : va_W} (sz : Nat) {kT aT : Nat} {T_domain T_turn T_contrast T_offset T_error : Int32} (x1 : Int32) (x2 : Int32) (x3 : Int32) (x4 : Int32) (x5 : Int32) (hN_T : zA ws0 kT (aT, .inr (4, [.int T_domain, .int T_turn, .int T_contrast, .int T_offset, .int T_error]))) (r : Int32 × Int32 × Int32 × Int32 × Int32) (hf : f_T_become x1 x2 x3 x4 x5 = some r) : Met l y_T_become w_T_become rm_T_become (va_Pc [.ref aT, .int x1, .int x2, .int x3, .int x4, .int x5] (zM dC dI cI cL ws0 sz)) (va_Qv (fun ws' : va_W => zA ws' kT (aT, .inr (4, [.int r.1, .int r.2.1, .int r.2.2.1, .int r.2.2.2.1, .int r.2.2.2.2])) ∧ ∀ (j : Nat), j ∉ ([kT] : List Nat) → ws'[j]? = ws0[j]?) (zQ dC dI cI cL (va_A ws0 sz)) (va_A ws0 sz)) 0 0 (va_A ws0 sz) := by
  refine Met.ofW (cc := b_T_become) (maxL := 6) (ret := none) (by decide) rfl ?_
  intro p e s m args below meth c s₁ B hml hv
  obtain ⟨rfl, hsz, hP, hK, hZ, hD0⟩ := hv
  have hx := B.exec
  have hb := B.bytes
  have hr := B.returns
  have hlocks := B.notSynchronized
  have hts : ∀ w ∈ BIG, w.before ([.ref aT, .int x1, .int x2, .int x3, .int x4, .int x5] : List Value).toArray s = true := fun w h => atoms_spec (ws := w_T_become) B.pre w (List.mem_cons_of_mem _ h)
  have hown : s.vm.findClass "FractalMaps$Fit" = some m.cls := findClass_of_methodNamed B.named
  subst hsz
  have hD := hD0.self (sz := s.heap.size)
  generalize hAe : va_A ws0 s.heap.size = A at hD ⊢
  have hA : ∀ q : Nat, s.heap.size ≤ q → A q := fun q h => by rw [← hAe]; exact Or.inr h
  have hS : va_S A s.heap s.heap [] := va_S.rf
  have hw : ∀ (j : Nat), j ∉ ([kT] : List Nat) → ws0[j]? = ws0[j]? := fun _ _ => rfl
  have hl := lv_entry ([.ref aT, .int x1, .int x2, .int x3, .int x4, .int x5]) (n := 6) (Nat.le_of_ble_eq_true rfl)
  rw [lg_entry_eq]
  generalize (lg_sl ([.ref aT, .int x1, .int x2, .int x3, .int x4, .int x5]) ++ List.replicate (6 - (lg_sl ([.ref aT, .int x1, .int x2, .int x3, .int x4, .int x5])).length) Slot.unset).toArray = ls at hl ⊢
  have hl : lv_has ls 6 [(0, .ref aT), (1, .int x1), (2, .int x2), (3, .int x3), (4, .int x4), (5, .int x5)] := hl
  unfold f_T_become at hf
  refine lv_aload_n hx hb d_T_become_0 rfl (lv_at hl 0 rfl) ?_
  refine lv_iload_n hx hb d_T_become_1 rfl (lv_at hl 1 rfl) ?_
  refine pf_T_7 (v := .int x1) hx hb hts hown hK hP hD hS hN_T rfl rfl (Nat.le_of_ble_eq_true rfl) d_T_become_2 (fun ws H locs hP hD hS hN_T hfr => ?_)
  have hN_T : zA ws kT (aT, .inr (4, [.int x1, .int T_turn, .int T_contrast, .int T_offset, .int T_error])) := hN_T
  have hw := z_fr List.mem_cons_self hw hfr
  refine lv_aload_n hx hb d_T_become_5 rfl (lv_at hl 0 rfl) ?_
  refine lv_iload_n hx hb d_T_become_6 rfl (lv_at hl 2 rfl) ?_
  refine pf_T_13 (v := .int x2) hx hb hts hown hK hP hD hS hN_T rfl rfl (Nat.le_of_ble_eq_true rfl) d_T_become_7 (fun ws H locs hP hD hS hN_T hfr => ?_)
  have hN_T : zA ws kT (aT, .inr (4, [.int x1, .int x2, .int T_contrast, .int T_offset, .int T_error])) := hN_T
  have hw := z_fr List.mem_cons_self hw hfr
  refine lv_aload_n hx hb d_T_become_10 rfl (lv_at hl 0 rfl) ?_
  refine lv_iload_n hx hb d_T_become_11 rfl (lv_at hl 3 rfl) ?_
  refine pf_T_16 (v := .int x3) hx hb hts hown hK hP hD hS hN_T rfl rfl (Nat.le_of_ble_eq_true rfl) d_T_become_12 (fun ws H locs hP hD hS hN_T hfr => ?_)
  have hN_T : zA ws kT (aT, .inr (4, [.int x1, .int x2, .int x3, .int T_offset, .int T_error])) := hN_T
  have hw := z_fr List.mem_cons_self hw hfr
  refine lv_aload_n hx hb d_T_become_15 rfl (lv_at hl 0 rfl) ?_
  refine lv_iload hx hb d_T_become_16 (lv_at hl 4 rfl) ?_
  refine pf_T_19 (v := .int x4) hx hb hts hown hK hP hD hS hN_T rfl rfl (Nat.le_of_ble_eq_true rfl) d_T_become_18 (fun ws H locs hP hD hS hN_T hfr => ?_)
  have hN_T : zA ws kT (aT, .inr (4, [.int x1, .int x2, .int x3, .int x4, .int T_error])) := hN_T
  have hw := z_fr List.mem_cons_self hw hfr
  refine lv_aload_n hx hb d_T_become_21 rfl (lv_at hl 0 rfl) ?_
  refine lv_iload hx hb d_T_become_22 (lv_at hl 5 rfl) ?_
  refine pf_T_22 (v := .int x5) hx hb hts hown hK hP hD hS hN_T rfl rfl (Nat.le_of_ble_eq_true rfl) d_T_become_24 (fun ws H locs hP hD hS hN_T hfr => ?_)
  have hN_T : zA ws kT (aT, .inr (4, [.int x1, .int x2, .int x3, .int x4, .int x5])) := hN_T
  have hw := z_fr List.mem_cons_self hw hfr
  obtain rfl := Option.some.inj hf
  exact W.vret hx hb hr (fun t ht hW => ⟨⟨ws, rfl, ⟨hN_T, hw⟩, by rw [ht]; exact hP, va_K.moved hW.alike hK, hD⟩, hS.F ht⟩) hS.2.2 d_T_become_27
def f_S_measure_30 (p1 : Int32) (p2 : Int32) (H_side : Int32) (HA_n : Nat) (HA_f : Nat → Int32) (V_left : Int32) (V_top : Int32) (Q_n : Nat) : Nat → Int32 → Int32 → Int32 → (Nat → Int32) → Option (Int32 × Int32 × Int32 × (Nat → Int32))
  | 0, _, _, _, _ => none
  | n + 1, v3, v4, S_foundSum, Q_f => if (4 : Int32) ≤ v4 then (some (v3, v4, S_foundSum, Q_f)) else ((f_F_acrossOf v4).bind (fun q247 => (f_F_downOf v4).bind (fun q249 => (f_G_sum (V_left + (q247 * p2)) (V_top + (q249 * p2)) p2 H_side HA_n HA_f).bind (fun q251 => if v4 < 0 ∨ Q_n ≤ v4.toNatClampNeg then none else (f_S_measure_30 p1 p2 H_side HA_n HA_f V_left V_top Q_n n (if v3 < q251 then q251 else v3) (v4 + 1) (S_foundSum + q251) (upd Q_f v4.toNatClampNeg q251))))))
def f_S_measure_129 (p1 : Int32) (p2 : Int32) (p3 : Int32) (p4 : Int32) (S_size : Int32) (HA_n : Nat) (HA_f : Nat → Int32) (V_start : Int32) (V_stepAcross : Int32) (V_stepDown : Int32) : Nat → Int32 → Int32 → Option (Int32 × Int32)
  | 0, _, _ => none
  | n + 1, v5, S_foundSquares => if S_size ≤ v5 then (some (v5, S_foundSquares)) else ((f_V_sample v5 p4 V_start V_stepAcross V_stepDown HA_n HA_f).bind (fun q265 => f_S_measure_129 p1 p2 p3 p4 S_size HA_n HA_f V_start V_stepAcross V_stepDown n (v5 + 1) (S_foundSquares + (q265 * q265))))
def f_S_measure_117 (p1 : Int32) (p2 : Int32) (p3 : Int32) (S_size : Int32) (HA_n : Nat) (HA_f : Nat → Int32) (V_start : Int32) (V_stepAcross : Int32) (V_stepDown : Int32) : Nat → Int32 → Int32 → Option (Int32 × Int32)
  | 0, _, _ => none
  | n + 1, v4, S_foundSquares => if S_size ≤ v4 then (some (v4, S_foundSquares)) else ((f_S_measure_129 p1 p2 p3 v4 S_size HA_n HA_f V_start V_stepAcross V_stepDown FU (0 : Int32) S_foundSquares).bind (fun q267 => f_S_measure_117 p1 p2 p3 S_size HA_n HA_f V_start V_stepAcross V_stepDown n (v4 + 1) q267.2))
def f_S_measure (x1 : Int32) (S_size : Int32) (S_foundSum : Int32) (S_foundSquares : Int32) (H_side : Int32) (HA_n : Nat) (HA_f : Nat → Int32) (V_left : Int32) (V_top : Int32) (V_start : Int32) (V_stepAcross : Int32) (V_stepDown : Int32) (Q_n : Nat) (Q_f : Nat → Int32) : Option (Int32 × Int32 × Int32 × Int32 × Int32 × Int32 × Int32 × Int32 × (Nat → Int32)) := (f_V_aim S_size x1 (0 : Int32) V_left V_top V_start H_side).bind (fun q246 => (f_S_measure_30 x1 (S_size / (2 : Int32)) H_side HA_n HA_f q246.1 q246.2.1 Q_n FU (0 : Int32) (0 : Int32) (0 : Int32) Q_f).bind (fun q253 => (f_S_measure_117 x1 (S_size / (2 : Int32)) q253.1 S_size HA_n HA_f q246.2.2.1 q246.2.2.2.1 q246.2.2.2.2 FU (0 : Int32) (0 : Int32)).bind (fun q273 => some (q253.1, q253.2.2.1, q273.2, q246.1, q246.2.1, q246.2.2.1, q246.2.2.2.1, q246.2.2.2.2, q253.2.2.2))))
set_option maxHeartbeats 4000000 in
set_option maxRecDepth 100000 in
theorem c_S_measure (l : Launch) (dC : Nat → ClassId) (dI : Nat → Nat → Nat) (cI cL : ClassId) {ws0 : va_W} (sz : Nat) {aS aP aH aV aW aD aQ aR aE aHA : Nat} {S_tried S_size S_count S_wantedSum S_foundSum S_foundSquares H_mostSide H_side V_left V_top V_start V_stepAcross V_stepDown : Int32} {HA_n Q_n : Nat} {HA_f Q_f : Nat → Int32} (x1 : Int32) (hN_S : zA ws0 8 (aS, .inr (3, [.ref aP, .ref aH, .ref aV, .ref aW, .ref aD, .ref aQ, .ref aR, .ref aE, .int S_tried, .int S_size, .int S_count, .int S_wantedSum, .int S_foundSum, .int S_foundSquares]))) (hN_H : zA ws0 5 (aH, .inr (1, [.int H_mostSide, .ref aHA, .int H_side]))) (hN_HA : zA ws0 6 (aHA, .inl (cI, HA_n, .inl HA_f))) (hN_V : zA ws0 7 (aV, .inr (2, [.ref aH, .int V_left, .int V_top, .int V_start, .int V_stepAcross, .int V_stepDown]))) (hN_Q : zA ws0 11 (aQ, .inl (cI, Q_n, .inl Q_f))) (r : Int32 × Int32 × Int32 × Int32 × Int32 × Int32 × Int32 × Int32 × (Nat → Int32)) (hf : f_S_measure x1 S_size S_foundSum S_foundSquares H_side HA_n HA_f V_left V_top V_start V_stepAcross V_stepDown Q_n Q_f = some r) : Met l y_S_measure w_S_measure rm_S_measure (va_Pc [.ref aS, .int x1] (zM dC dI cI cL ws0 sz)) (va_Qi (fun (v : Int32) (ws' : va_W) => v = r.1 ∧ zA ws' 8 (aS, .inr (3, [.ref aP, .ref aH, .ref aV, .ref aW, .ref aD, .ref aQ, .ref aR, .ref aE, .int S_tried, .int S_size, .int S_count, .int S_wantedSum, .int r.2.1, .int r.2.2.1])) ∧ zA ws' 7 (aV, .inr (2, [.ref aH, .int r.2.2.2.1, .int r.2.2.2.2.1, .int r.2.2.2.2.2.1, .int r.2.2.2.2.2.2.1, .int r.2.2.2.2.2.2.2.1])) ∧ zA ws' 11 (aQ, .inl (cI, Q_n, .inl r.2.2.2.2.2.2.2.2)) ∧ ∀ (j : Nat), j ∉ ([8, 7, 11] : List Nat) → ws'[j]? = ws0[j]?) (zQ dC dI cI cL (va_A ws0 sz)) (va_A ws0 sz)) 0 0 (va_A ws0 sz) := by
  refine Met.ofW (cc := b_S_measure) (maxL := 7) (ret := some .int) (by decide) rfl ?_
  intro p e s m args below meth c s₁ B hml hv
  obtain ⟨rfl, hsz, hP, hK, hZ, hD0⟩ := hv
  have hx := B.exec
  have hb := B.bytes
  have hr := B.returns
  have hlocks := B.notSynchronized
  have hts : ∀ w ∈ BIG, w.before ([.ref aS, .int x1] : List Value).toArray s = true := fun w h => atoms_spec (ws := w_S_measure) B.pre w (List.mem_cons_of_mem _ h)
  have hown : s.vm.findClass "FractalMaps$Search" = some m.cls := findClass_of_methodNamed B.named
  subst hsz
  have hD := hD0.self (sz := s.heap.size)
  generalize hAe : va_A ws0 s.heap.size = A at hD ⊢
  have hA : ∀ q : Nat, s.heap.size ≤ q → A q := fun q h => by rw [← hAe]; exact Or.inr h
  have hS : va_S A s.heap s.heap [] := va_S.rf
  have hw : ∀ (j : Nat), j ∉ ([8, 7, 11] : List Nat) → ws0[j]? = ws0[j]? := fun _ _ => rfl
  have hl := lv_entry ([.ref aS, .int x1]) (n := 7) (Nat.le_of_ble_eq_true rfl)
  rw [lg_entry_eq]
  generalize (lg_sl ([.ref aS, .int x1]) ++ List.replicate (7 - (lg_sl ([.ref aS, .int x1])).length) Slot.unset).toArray = ls at hl ⊢
  have hl : lv_has ls 7 [(0, .ref aS), (1, .int x1)] := hl
  unfold f_S_measure at hf
  refine lv_aload_n hx hb d_S_measure_0 rfl (lv_at hl 0 rfl) ?_
  refine gf_S_18 (v := .ref aV) hx hb hts hown hK hP hN_S rfl d_S_measure_1 ?_
  refine lv_aload_n hx hb d_S_measure_4 rfl (lv_at hl 0 rfl) ?_
  refine gf_S_78 (v := .int S_size) hx hb hts hown hK hP hN_S rfl d_S_measure_5 ?_
  refine lv_iload_n hx hb d_S_measure_8 rfl (lv_at hl 1 rfl) ?_
  refine lv_iconst (v := 0) hx hb d_S_measure_9 (by decide) ?_
  obtain ⟨q246, hc, hf⟩ := z_b hf
  have hFc := z_free hD hS hA
  refine va_callv (va_runV (As := [.int S_size, .int x1, .int (0 : Int32)]) (rest := []) ⟨hx, hb, hml, hown, hts⟩ (c_V_aim l dC dI cI cL _ S_size x1 (0 : Int32) hN_V hN_H q246 hc) (cw_S_107 hts ⟨Nat.le_of_ble_eq_true rfl, Nat.le_of_ble_eq_true rfl⟩) ⟨zbM, va_recv hK hP (ci := 2) rfl hN_V, (zpM hP hK hZ hD)⟩ rfl rfl hl.1 rfl (lv_room (Nat.le_of_ble_eq_true rfl)) d_S_measure_10 ⟨Nat.zero_le _, Nat.zero_le _⟩) hS (fun q _ h => hFc q h) hFc (fun ws t H locs ht hvm hu hB hz1 hk1 hS => ?_)
  obtain ⟨hN_V, hfr⟩ := hu
  obtain ⟨hP, -, hD1⟩ := hB
  rw [ht] at hP
  have hD := hD1.weaken (fun _ _ _ h => hFc _ h)
  have hN_V : zA ws 7 (aV, .inr (2, [.ref aH, .int q246.1, .int q246.2.1, .int q246.2.2.1, .int q246.2.2.2.1, .int q246.2.2.2.2])) := hN_V
  have hN_S := (hfr _ (by decide)).trans hN_S
  have hN_H := (hfr _ (by decide)).trans hN_H
  have hN_HA := (hfr _ (by decide)).trans hN_HA
  have hN_Q := (hfr _ (by decide)).trans hN_Q
  have hw := z_frC (by decide) hw hfr
  refine lv_aload_n hx hb d_S_measure_13 rfl (lv_at hl 0 rfl) ?_
  refine gf_S_78 (v := .int S_size) hx hb hts hown hK hP hN_S rfl d_S_measure_14 ?_
  refine lv_iconst (v := 2) hx hb d_S_measure_17 (by decide) ?_
  refine lv_idiv hx hb d_S_measure_18 (by decide) ?_
  refine lv_istore_n (lv' := [(2, .int (S_size / (2 : Int32))), (0, .ref aS), (1, .int x1)]) hx hb d_S_measure_19 rfl hl (by decide) rfl (fun ls hl => ?_)
  refine lv_iconst (v := 0) hx hb d_S_measure_20 (by decide) ?_
  refine lv_istore_n (lv' := [(3, .int (0 : Int32)), (2, .int (S_size / (2 : Int32))), (0, .ref aS), (1, .int x1)]) hx hb d_S_measure_21 rfl hl (by decide) rfl (fun ls hl => ?_)
  refine lv_aload_n hx hb d_S_measure_22 rfl (lv_at hl 2 rfl) ?_
  refine lv_iconst (v := 0) hx hb d_S_measure_23 (by decide) ?_
  refine pf_S_110 (v := .int (0 : Int32)) hx hb hts hown hK hP hD hS hN_S rfl rfl (Nat.le_of_ble_eq_true rfl) d_S_measure_24 (fun ws H locs hP hD hS hN_S hfr => ?_)
  have hN_S : zA ws 8 (aS, .inr (3, [.ref aP, .ref aH, .ref aV, .ref aW, .ref aD, .ref aQ, .ref aR, .ref aE, .int S_tried, .int S_size, .int S_count, .int S_wantedSum, .int (0 : Int32), .int S_foundSquares])) := hN_S
  have hN_H := (hfr _ (by decide)).trans hN_H
  have hN_HA := (hfr _ (by decide)).trans hN_HA
  have hN_V := (hfr _ (by decide)).trans hN_V
  have hN_Q := (hfr _ (by decide)).trans hN_Q
  have hw := z_fr (by decide) hw hfr
  refine lv_iconst (v := 0) hx hb d_S_measure_27 (by decide) ?_
  refine lv_istore (lv' := [(4, .int (0 : Int32)), (3, .int (0 : Int32)), (2, .int (S_size / (2 : Int32))), (0, .ref aS), (1, .int x1)]) hx hb d_S_measure_28 hl (by decide) rfl (fun ls hl => ?_)
  have lp258 : ∀ (Qx : State → Prop) (n : Nat) (v3_254 : Int32) (v4_255 : Int32) (S_foundSum_256 : Int32) (Q_f_257 : Nat → Int32) (ws : va_W) (H : Heap) (locs : List Loc) (ls : Array Slot) (q : Int32 × Int32 × Int32 × (Nat → Int32)) (hf : f_S_measure_30 x1 (S_size / (2 : Int32)) H_side HA_n HA_f q246.1 q246.2.1 Q_n n v3_254 v4_255 S_foundSum_256 Q_f_257 = some q) (hl : lv_has ls 7 [(0, .ref aS), (1, .int x1), (2, .int (S_size / (2 : Int32))), (3, .int v3_254), (4, .int v4_255)]) (hP : va_P (dC, dI) classes ws H) (hD : va_D A ws) (hS : va_S A s.heap H locs) (hN_S : zA ws 8 (aS, .inr (3, [.ref aP, .ref aH, .ref aV, .ref aW, .ref aD, .ref aQ, .ref aR, .ref aE, .int S_tried, .int S_size, .int S_count, .int S_wantedSum, .int S_foundSum_256, .int S_foundSquares]))) (hN_H : zA ws 5 (aH, .inr (1, [.int H_mostSide, .ref aHA, .int H_side]))) (hN_HA : zA ws 6 (aHA, .inl (cI, HA_n, .inl HA_f))) (hN_V : zA ws 7 (aV, .inr (2, [.ref aH, .int q246.1, .int q246.2.1, .int q246.2.2.1, .int q246.2.2.2.1, .int q246.2.2.2.2]))) (hN_Q : zA ws 11 (aQ, .inl (cI, Q_n, .inl Q_f_257))) (hw : ∀ (j : Nat), j ∉ ([8, 7, 11] : List Nat) → ws[j]? = ws0[j]?) (kt0 : ∀ (ws : va_W) (H : Heap) (locs : List Loc) (ls : Array Slot), lv_has ls 7 [(0, .ref aS), (1, .int x1), (2, .int (S_size / (2 : Int32))), (3, .int q.1), (4, .int q.2.1)] → (va_P (dC, dI) classes ws H) → (va_D A ws) → (va_S A s.heap H locs) → (zA ws 8 (aS, .inr (3, [.ref aP, .ref aH, .ref aV, .ref aW, .ref aD, .ref aQ, .ref aR, .ref aE, .int S_tried, .int S_size, .int S_count, .int S_wantedSum, .int q.2.2.1, .int S_foundSquares]))) → (zA ws 5 (aH, .inr (1, [.int H_mostSide, .ref aHA, .int H_side]))) → (zA ws 6 (aHA, .inl (cI, HA_n, .inl HA_f))) → (zA ws 7 (aV, .inr (2, [.ref aH, .int q246.1, .int q246.2.1, .int q246.2.2.1, .int q246.2.2.2.1, .int q246.2.2.2.2]))) → (zA ws 11 (aQ, .inl (cI, Q_n, .inl q.2.2.2))) → (∀ (j : Nat), j ∉ ([8, 7, 11] : List Nat) → ws[j]? = ws0[j]?) → W p l e (headSpec w_S_measure rm_S_measure).room s m ([.ref aS, .int x1] : List Value).toArray below meth c H locs 0 0 Qx (F0 m 109 ls [])), W p l e (headSpec w_S_measure rm_S_measure).room s m ([.ref aS, .int x1] : List Value).toArray below meth c H locs 0 0 Qx (F0 m 30 ls []) := by
    intro Qx n
    induction n with
    | zero => intro v3_254 v4_255 S_foundSum_256 Q_f_257 ws H locs ls q hf; cases hf
    | succ n ih =>
      intro v3_254 v4_255 S_foundSum_256 Q_f_257 ws H locs ls q hf hl hP hD hS hN_S hN_H hN_HA hN_V hN_Q hw kt0
      rw [f_S_measure_30] at hf
      refine lv_iload hx hb d_S_measure_30 (lv_at hl 4 rfl) ?_
      refine lv_iconst (v := 4) hx hb d_S_measure_32 (by decide) ?_
      refine lv_icmp_ge (tgt := 109) hx hb d_S_measure_33 (by decide) (fun hc => ?_) (fun hc => ?_)
      · have hf := z_t hc hf
        obtain rfl := Option.some.inj hf
        exact kt0 _ _ _ ls (lv_sub hl [0, 1, 2, 3, 4] rfl) hP hD hS hN_S hN_H hN_HA hN_V hN_Q hw
      · have hf := z_f hc hf
        refine lv_aload_n hx hb d_S_measure_36 rfl (lv_at hl 0 rfl) ?_
        refine gf_S_15 (v := .ref aH) hx hb hts hown hK hP hN_S rfl d_S_measure_37 ?_
        refine lv_aload_n hx hb d_S_measure_40 rfl (lv_at hl 0 rfl) ?_
        refine gf_S_18 (v := .ref aV) hx hb hts hown hK hP hN_S rfl d_S_measure_41 ?_
        refine gf_S_113 (v := .int q246.1) hx hb hts hown hK hZ hP hN_V rfl d_S_measure_44 ?_
        refine lv_iload hx hb d_S_measure_47 (lv_at hl 4 rfl) ?_
        obtain ⟨q259, hc, hf⟩ := z_b hf
        refine vp_callSi (z_cr (va_runSN (As := [.int v4_255]) (rest := [.int q246.1, .ref aH]) ⟨hx, hb, hml, hown, hts⟩ (c_F_acrossOf l v4_255 q259 hc) (cw_S_116 hts hZ ⟨Nat.le_of_ble_eq_true rfl, Nat.le_of_ble_eq_true rfl⟩) ⟨zb0, zp0⟩ rfl rfl hl.1 rfl (lv_room (Nat.le_of_ble_eq_true rfl)) d_S_measure_49 ⟨Nat.zero_le _, Nat.zero_le _⟩)) (fun r260 hv => ?_)
        have hv := hv.symm
        subst hv
        refine lv_iload_n hx hb d_S_measure_52 rfl (lv_at hl 2 rfl) ?_
        refine lv_imul hx hb d_S_measure_53 ?_
        refine lv_iadd hx hb d_S_measure_54 ?_
        refine lv_aload_n hx hb d_S_measure_55 rfl (lv_at hl 0 rfl) ?_
        refine gf_S_18 (v := .ref aV) hx hb hts hown hK hP hN_S rfl d_S_measure_56 ?_
        refine gf_S_119 (v := .int q246.2.1) hx hb hts hown hK hZ hP hN_V rfl d_S_measure_59 ?_
        refine lv_iload hx hb d_S_measure_62 (lv_at hl 4 rfl) ?_
        obtain ⟨q261, hc, hf⟩ := z_b hf
        refine vp_callSi (z_cr (va_runSN (As := [.int v4_255]) (rest := [.int q246.2.1, .int (q246.1 + (q259 * (S_size / (2 : Int32)))), .ref aH]) ⟨hx, hb, hml, hown, hts⟩ (c_F_downOf l v4_255 q261 hc) (cw_S_122 hts hZ ⟨Nat.le_of_ble_eq_true rfl, Nat.le_of_ble_eq_true rfl⟩) ⟨zb0, zp0⟩ rfl rfl hl.1 rfl (lv_room (Nat.le_of_ble_eq_true rfl)) d_S_measure_64 ⟨Nat.zero_le _, Nat.zero_le _⟩)) (fun r262 hv => ?_)
        have hv := hv.symm
        subst hv
        refine lv_iload_n hx hb d_S_measure_67 rfl (lv_at hl 2 rfl) ?_
        refine lv_imul hx hb d_S_measure_68 ?_
        refine lv_iadd hx hb d_S_measure_69 ?_
        refine lv_iload_n hx hb d_S_measure_70 rfl (lv_at hl 2 rfl) ?_
        obtain ⟨q263, hc, hf⟩ := z_b hf
        refine vp_callSi (z_cr (va_runV (As := [.int (q246.1 + (q259 * (S_size / (2 : Int32)))), .int (q246.2.1 + (q261 * (S_size / (2 : Int32)))), .int (S_size / (2 : Int32))]) (rest := []) ⟨hx, hb, hml, hown, hts⟩ (c_G_sum l dC dI cI cL (q246.1 + (q259 * (S_size / (2 : Int32)))) (q246.2.1 + (q261 * (S_size / (2 : Int32)))) (S_size / (2 : Int32)) hN_H hN_HA q263 hc) (cw_S_98 hts ⟨Nat.le_of_ble_eq_true rfl, Nat.le_of_ble_eq_true rfl⟩) ⟨zbR, va_recv hK hP (ci := 1) rfl hN_H, (zpR hP hK hZ)⟩ rfl rfl hl.1 rfl (lv_room (Nat.le_of_ble_eq_true rfl)) d_S_measure_71 ⟨Nat.zero_le _, Nat.zero_le _⟩)) (fun r264 hv => ?_)
        have hv := hv.symm
        subst hv
        refine lv_istore (lv' := [(5, .int q263), (0, .ref aS), (1, .int x1), (2, .int (S_size / (2 : Int32))), (3, .int v3_254), (4, .int v4_255)]) hx hb d_S_measure_74 hl (by decide) rfl (fun ls hl => ?_)
        refine lv_aload_n hx hb d_S_measure_76 rfl (lv_at hl 1 rfl) ?_
        refine gf_S_34 (v := .ref aQ) hx hb hts hown hK hP hN_S rfl d_S_measure_77 ?_
        refine lv_iload hx hb d_S_measure_80 (lv_at hl 5 rfl) ?_
        refine lv_iload hx hb d_S_measure_82 (lv_at hl 0 rfl) ?_
        obtain ⟨hin, hf⟩ := z_no hf
        refine z_iast hx hb hK hP hD hS hN_Q rfl hin d_S_measure_84 (fun ws H locs hP hD hS hN_Q hfr => ?_)
        have hN_Q : zA ws 11 (aQ, .inl (cI, Q_n, .inl (upd Q_f_257 v4_255.toNatClampNeg q263))) := hN_Q
        have hN_S := (hfr _ (by decide)).trans hN_S
        have hN_H := (hfr _ (by decide)).trans hN_H
        have hN_HA := (hfr _ (by decide)).trans hN_HA
        have hN_V := (hfr _ (by decide)).trans hN_V
        have hw := z_fr (by decide) hw hfr
        refine lv_aload_n hx hb d_S_measure_85 rfl (lv_at hl 1 rfl) ?_
        refine lv_dup hx hb d_S_measure_86 rfl ?_
        refine gf_S_110 (v := .int S_foundSum_256) hx hb hts hown hK hP hN_S rfl d_S_measure_87 ?_
        refine lv_iload hx hb d_S_measure_90 (lv_at hl 0 rfl) ?_
        refine lv_iadd hx hb d_S_measure_92 ?_
        refine pf_S_110 (v := .int (S_foundSum_256 + q263)) hx hb hts hown hK hP hD hS hN_S rfl rfl (Nat.le_of_ble_eq_true rfl) d_S_measure_93 (fun ws H locs hP hD hS hN_S hfr => ?_)
        have hN_S : zA ws 8 (aS, .inr (3, [.ref aP, .ref aH, .ref aV, .ref aW, .ref aD, .ref aQ, .ref aR, .ref aE, .int S_tried, .int S_size, .int S_count, .int S_wantedSum, .int (S_foundSum_256 + q263), .int S_foundSquares])) := hN_S
        have hN_H := (hfr _ (by decide)).trans hN_H
        have hN_HA := (hfr _ (by decide)).trans hN_HA
        have hN_V := (hfr _ (by decide)).trans hN_V
        have hN_Q := (hfr _ (by decide)).trans hN_Q
        have hw := z_fr (by decide) hw hfr
        refine lv_iload_n hx hb d_S_measure_96 rfl (lv_at hl 4 rfl) ?_
        refine lv_iload hx hb d_S_measure_97 (lv_at hl 0 rfl) ?_
        refine mm_S_125 hx hb (hml.trans hl.1.symm) hown hts (Nat.le_of_ble_eq_true rfl) (Nat.le_of_ble_eq_true rfl) (Nat.zero_le _) (Nat.zero_le _) d_S_measure_99 ?_
        refine lv_istore_n (lv' := [(3, .int (if v3_254 < q263 then q263 else v3_254)), (5, .int q263), (0, .ref aS), (1, .int x1), (2, .int (S_size / (2 : Int32))), (4, .int v4_255)]) hx hb d_S_measure_102 rfl hl (by decide) rfl (fun ls hl => ?_)
        refine lv_iinc (v := (v4_255 + 1)) (lv' := [(4, .int (v4_255 + 1)), (3, .int (if v3_254 < q263 then q263 else v3_254)), (5, .int q263), (0, .ref aS), (1, .int x1), (2, .int (S_size / (2 : Int32)))]) hx hb d_S_measure_103 hl (k := 5) rfl rfl (by decide) rfl (fun ls hl => ?_)
        refine lv_goto (tgt := 30) hx hb d_S_measure_106 (by decide) ?_
        exact ih (if v3_254 < q263 then q263 else v3_254) (v4_255 + 1) (S_foundSum_256 + q263) (upd Q_f_257 v4_255.toNatClampNeg q263) _ _ _ ls _ hf (lv_sub hl [3, 4, 5, 1, 0] rfl) hP hD hS hN_S hN_H hN_HA hN_V hN_Q hw kt0
  obtain ⟨q253, hc, hf⟩ := z_b hf
  refine lp258 _ FU (0 : Int32) (0 : Int32) (0 : Int32) Q_f _ _ _ ls q253 hc (lv_sub hl [3, 4, 2, 1, 0] rfl) hP hD hS hN_S hN_H hN_HA hN_V hN_Q hw (fun ws H locs ls hl hP hD hS hN_S hN_H hN_HA hN_V hN_Q hw => ?_)
  refine lv_aload_n hx hb d_S_measure_109 rfl (lv_at hl 0 rfl) ?_
  refine lv_iconst (v := 0) hx hb d_S_measure_110 (by decide) ?_
  refine pf_S_128 (v := .int (0 : Int32)) hx hb hts hown hK hP hD hS hN_S rfl rfl (Nat.le_of_ble_eq_true rfl) d_S_measure_111 (fun ws H locs hP hD hS hN_S hfr => ?_)
  have hN_S : zA ws 8 (aS, .inr (3, [.ref aP, .ref aH, .ref aV, .ref aW, .ref aD, .ref aQ, .ref aR, .ref aE, .int S_tried, .int S_size, .int S_count, .int S_wantedSum, .int q253.2.2.1, .int (0 : Int32)])) := hN_S
  have hN_H := (hfr _ (by decide)).trans hN_H
  have hN_HA := (hfr _ (by decide)).trans hN_HA
  have hN_V := (hfr _ (by decide)).trans hN_V
  have hN_Q := (hfr _ (by decide)).trans hN_Q
  have hw := z_fr (by decide) hw hfr
  refine lv_iconst (v := 0) hx hb d_S_measure_114 (by decide) ?_
  refine lv_istore (lv' := [(4, .int (0 : Int32)), (0, .ref aS), (1, .int x1), (2, .int (S_size / (2 : Int32))), (3, .int q253.1)]) hx hb d_S_measure_115 hl (by decide) rfl (fun ls hl => ?_)
  have lp276 : ∀ (Qx : State → Prop) (n : Nat) (v4_274 : Int32) (S_foundSquares_275 : Int32) (ws : va_W) (H : Heap) (locs : List Loc) (ls : Array Slot) (q : Int32 × Int32) (hf : f_S_measure_117 x1 (S_size / (2 : Int32)) q253.1 S_size HA_n HA_f q246.2.2.1 q246.2.2.2.1 q246.2.2.2.2 n v4_274 S_foundSquares_275 = some q) (hl : lv_has ls 7 [(0, .ref aS), (1, .int x1), (2, .int (S_size / (2 : Int32))), (3, .int q253.1), (4, .int v4_274)]) (hP : va_P (dC, dI) classes ws H) (hD : va_D A ws) (hS : va_S A s.heap H locs) (hN_S : zA ws 8 (aS, .inr (3, [.ref aP, .ref aH, .ref aV, .ref aW, .ref aD, .ref aQ, .ref aR, .ref aE, .int S_tried, .int S_size, .int S_count, .int S_wantedSum, .int q253.2.2.1, .int S_foundSquares_275]))) (hN_H : zA ws 5 (aH, .inr (1, [.int H_mostSide, .ref aHA, .int H_side]))) (hN_HA : zA ws 6 (aHA, .inl (cI, HA_n, .inl HA_f))) (hN_V : zA ws 7 (aV, .inr (2, [.ref aH, .int q246.1, .int q246.2.1, .int q246.2.2.1, .int q246.2.2.2.1, .int q246.2.2.2.2]))) (hN_Q : zA ws 11 (aQ, .inl (cI, Q_n, .inl q253.2.2.2))) (hw : ∀ (j : Nat), j ∉ ([8, 7, 11] : List Nat) → ws[j]? = ws0[j]?) (kt0 : ∀ (ws : va_W) (H : Heap) (locs : List Loc) (ls : Array Slot), lv_has ls 7 [(0, .ref aS), (1, .int x1), (2, .int (S_size / (2 : Int32))), (3, .int q253.1), (4, .int q.1)] → (va_P (dC, dI) classes ws H) → (va_D A ws) → (va_S A s.heap H locs) → (zA ws 8 (aS, .inr (3, [.ref aP, .ref aH, .ref aV, .ref aW, .ref aD, .ref aQ, .ref aR, .ref aE, .int S_tried, .int S_size, .int S_count, .int S_wantedSum, .int q253.2.2.1, .int q.2]))) → (zA ws 5 (aH, .inr (1, [.int H_mostSide, .ref aHA, .int H_side]))) → (zA ws 6 (aHA, .inl (cI, HA_n, .inl HA_f))) → (zA ws 7 (aV, .inr (2, [.ref aH, .int q246.1, .int q246.2.1, .int q246.2.2.1, .int q246.2.2.2.1, .int q246.2.2.2.2]))) → (zA ws 11 (aQ, .inl (cI, Q_n, .inl q253.2.2.2))) → (∀ (j : Nat), j ∉ ([8, 7, 11] : List Nat) → ws[j]? = ws0[j]?) → W p l e (headSpec w_S_measure rm_S_measure).room s m ([.ref aS, .int x1] : List Value).toArray below meth c H locs 0 0 Qx (F0 m 177 ls [])), W p l e (headSpec w_S_measure rm_S_measure).room s m ([.ref aS, .int x1] : List Value).toArray below meth c H locs 0 0 Qx (F0 m 117 ls []) := by
    intro Qx n
    induction n with
    | zero => intro v4_274 S_foundSquares_275 ws H locs ls q hf; cases hf
    | succ n ih =>
      intro v4_274 S_foundSquares_275 ws H locs ls q hf hl hP hD hS hN_S hN_H hN_HA hN_V hN_Q hw kt0
      rw [f_S_measure_117] at hf
      refine lv_iload hx hb d_S_measure_117 (lv_at hl 4 rfl) ?_
      refine lv_aload_n hx hb d_S_measure_119 rfl (lv_at hl 0 rfl) ?_
      refine gf_S_78 (v := .int S_size) hx hb hts hown hK hP hN_S rfl d_S_measure_120 ?_
      refine lv_icmp_ge (tgt := 177) hx hb d_S_measure_123 (by decide) (fun hc => ?_) (fun hc => ?_)
      · have hf := z_t hc hf
        obtain rfl := Option.some.inj hf
        exact kt0 _ _ _ ls (lv_sub hl [0, 1, 2, 3, 4] rfl) hP hD hS hN_S hN_H hN_HA hN_V hN_Q hw
      · have hf := z_f hc hf
        refine lv_iconst (v := 0) hx hb d_S_measure_126 (by decide) ?_
        refine lv_istore (lv' := [(5, .int (0 : Int32)), (0, .ref aS), (1, .int x1), (2, .int (S_size / (2 : Int32))), (3, .int q253.1), (4, .int v4_274)]) hx hb d_S_measure_127 hl (by decide) rfl (fun ls hl => ?_)
        have lp280 : ∀ (Qx : State → Prop) (n : Nat) (v5_278 : Int32) (S_foundSquares_279 : Int32) (ws : va_W) (H : Heap) (locs : List Loc) (ls : Array Slot) (q : Int32 × Int32) (hf : f_S_measure_129 x1 (S_size / (2 : Int32)) q253.1 v4_274 S_size HA_n HA_f q246.2.2.1 q246.2.2.2.1 q246.2.2.2.2 n v5_278 S_foundSquares_279 = some q) (hl : lv_has ls 7 [(0, .ref aS), (1, .int x1), (2, .int (S_size / (2 : Int32))), (3, .int q253.1), (4, .int v4_274), (5, .int v5_278)]) (hP : va_P (dC, dI) classes ws H) (hD : va_D A ws) (hS : va_S A s.heap H locs) (hN_S : zA ws 8 (aS, .inr (3, [.ref aP, .ref aH, .ref aV, .ref aW, .ref aD, .ref aQ, .ref aR, .ref aE, .int S_tried, .int S_size, .int S_count, .int S_wantedSum, .int q253.2.2.1, .int S_foundSquares_279]))) (hN_H : zA ws 5 (aH, .inr (1, [.int H_mostSide, .ref aHA, .int H_side]))) (hN_HA : zA ws 6 (aHA, .inl (cI, HA_n, .inl HA_f))) (hN_V : zA ws 7 (aV, .inr (2, [.ref aH, .int q246.1, .int q246.2.1, .int q246.2.2.1, .int q246.2.2.2.1, .int q246.2.2.2.2]))) (hN_Q : zA ws 11 (aQ, .inl (cI, Q_n, .inl q253.2.2.2))) (hw : ∀ (j : Nat), j ∉ ([8, 7, 11] : List Nat) → ws[j]? = ws0[j]?) (kt0 : ∀ (ws : va_W) (H : Heap) (locs : List Loc) (ls : Array Slot), lv_has ls 7 [(0, .ref aS), (1, .int x1), (2, .int (S_size / (2 : Int32))), (3, .int q253.1), (4, .int v4_274), (5, .int q.1)] → (va_P (dC, dI) classes ws H) → (va_D A ws) → (va_S A s.heap H locs) → (zA ws 8 (aS, .inr (3, [.ref aP, .ref aH, .ref aV, .ref aW, .ref aD, .ref aQ, .ref aR, .ref aE, .int S_tried, .int S_size, .int S_count, .int S_wantedSum, .int q253.2.2.1, .int q.2]))) → (zA ws 5 (aH, .inr (1, [.int H_mostSide, .ref aHA, .int H_side]))) → (zA ws 6 (aHA, .inl (cI, HA_n, .inl HA_f))) → (zA ws 7 (aV, .inr (2, [.ref aH, .int q246.1, .int q246.2.1, .int q246.2.2.1, .int q246.2.2.2.1, .int q246.2.2.2.2]))) → (zA ws 11 (aQ, .inl (cI, Q_n, .inl q253.2.2.2))) → (∀ (j : Nat), j ∉ ([8, 7, 11] : List Nat) → ws[j]? = ws0[j]?) → W p l e (headSpec w_S_measure rm_S_measure).room s m ([.ref aS, .int x1] : List Value).toArray below meth c H locs 0 0 Qx (F0 m 171 ls [])), W p l e (headSpec w_S_measure rm_S_measure).room s m ([.ref aS, .int x1] : List Value).toArray below meth c H locs 0 0 Qx (F0 m 129 ls []) := by
          intro Qx n
          induction n with
          | zero => intro v5_278 S_foundSquares_279 ws H locs ls q hf; cases hf
          | succ n ih =>
            intro v5_278 S_foundSquares_279 ws H locs ls q hf hl hP hD hS hN_S hN_H hN_HA hN_V hN_Q hw kt0
            rw [f_S_measure_129] at hf
            refine lv_iload hx hb d_S_measure_129 (lv_at hl 5 rfl) ?_
            refine lv_aload_n hx hb d_S_measure_131 rfl (lv_at hl 0 rfl) ?_
            refine gf_S_78 (v := .int S_size) hx hb hts hown hK hP hN_S rfl d_S_measure_132 ?_
            refine lv_icmp_ge (tgt := 171) hx hb d_S_measure_135 (by decide) (fun hc => ?_) (fun hc => ?_)
            · have hf := z_t hc hf
              obtain rfl := Option.some.inj hf
              exact kt0 _ _ _ ls (lv_sub hl [0, 1, 2, 3, 4, 5] rfl) hP hD hS hN_S hN_H hN_HA hN_V hN_Q hw
            · have hf := z_f hc hf
              refine lv_aload_n hx hb d_S_measure_138 rfl (lv_at hl 0 rfl) ?_
              refine gf_S_18 (v := .ref aV) hx hb hts hown hK hP hN_S rfl d_S_measure_139 ?_
              refine lv_iload hx hb d_S_measure_142 (lv_at hl 5 rfl) ?_
              refine lv_iload hx hb d_S_measure_144 (lv_at hl 4 rfl) ?_
              obtain ⟨q281, hc, hf⟩ := z_b hf
              refine vp_callSi (z_cr (va_runV (As := [.int v5_278, .int v4_274]) (rest := []) ⟨hx, hb, hml, hown, hts⟩ (c_V_sample l dC dI cI cL v5_278 v4_274 hN_V hN_H hN_HA q281 hc) (cw_S_131 hts ⟨Nat.le_of_ble_eq_true rfl, Nat.le_of_ble_eq_true rfl⟩) ⟨zbR, va_recv hK hP (ci := 2) rfl hN_V, (zpR hP hK hZ)⟩ rfl rfl hl.1 rfl (lv_room (Nat.le_of_ble_eq_true rfl)) d_S_measure_146 ⟨Nat.zero_le _, Nat.zero_le _⟩)) (fun r282 hv => ?_)
              have hv := hv.symm
              subst hv
              refine lv_istore (lv' := [(6, .int q281), (0, .ref aS), (1, .int x1), (2, .int (S_size / (2 : Int32))), (3, .int q253.1), (4, .int v4_274), (5, .int v5_278)]) hx hb d_S_measure_149 hl (by decide) rfl (fun ls hl => ?_)
              refine lv_aload_n hx hb d_S_measure_151 rfl (lv_at hl 1 rfl) ?_
              refine lv_dup hx hb d_S_measure_152 rfl ?_
              refine gf_S_128 (v := .int S_foundSquares_279) hx hb hts hown hK hP hN_S rfl d_S_measure_153 ?_
              refine lv_iload hx hb d_S_measure_156 (lv_at hl 0 rfl) ?_
              refine lv_iload hx hb d_S_measure_158 (lv_at hl 0 rfl) ?_
              refine lv_imul hx hb d_S_measure_160 ?_
              refine lv_iadd hx hb d_S_measure_161 ?_
              refine pf_S_128 (v := .int (S_foundSquares_279 + (q281 * q281))) hx hb hts hown hK hP hD hS hN_S rfl rfl (Nat.le_of_ble_eq_true rfl) d_S_measure_162 (fun ws H locs hP hD hS hN_S hfr => ?_)
              have hN_S : zA ws 8 (aS, .inr (3, [.ref aP, .ref aH, .ref aV, .ref aW, .ref aD, .ref aQ, .ref aR, .ref aE, .int S_tried, .int S_size, .int S_count, .int S_wantedSum, .int q253.2.2.1, .int (S_foundSquares_279 + (q281 * q281))])) := hN_S
              have hN_H := (hfr _ (by decide)).trans hN_H
              have hN_HA := (hfr _ (by decide)).trans hN_HA
              have hN_V := (hfr _ (by decide)).trans hN_V
              have hN_Q := (hfr _ (by decide)).trans hN_Q
              have hw := z_fr (by decide) hw hfr
              refine lv_iinc (v := (v5_278 + 1)) (lv' := [(5, .int (v5_278 + 1)), (6, .int q281), (0, .ref aS), (1, .int x1), (2, .int (S_size / (2 : Int32))), (3, .int q253.1), (4, .int v4_274)]) hx hb d_S_measure_165 hl (k := 6) rfl rfl (by decide) rfl (fun ls hl => ?_)
              refine lv_goto (tgt := 129) hx hb d_S_measure_168 (by decide) ?_
              exact ih (v5_278 + 1) (S_foundSquares_279 + (q281 * q281)) _ _ _ ls _ hf (lv_sub hl [2, 3, 4, 5, 6, 0] rfl) hP hD hS hN_S hN_H hN_HA hN_V hN_Q hw kt0
        obtain ⟨q277, hc, hf⟩ := z_b hf
        refine lp280 _ FU (0 : Int32) S_foundSquares_275 _ _ _ ls q277 hc (lv_sub hl [1, 2, 3, 4, 5, 0] rfl) hP hD hS hN_S hN_H hN_HA hN_V hN_Q hw (fun ws H locs ls hl hP hD hS hN_S hN_H hN_HA hN_V hN_Q hw => ?_)
        refine lv_iinc (v := (v4_274 + 1)) (lv' := [(4, .int (v4_274 + 1)), (0, .ref aS), (1, .int x1), (2, .int (S_size / (2 : Int32))), (3, .int q253.1), (5, .int q277.1)]) hx hb d_S_measure_171 hl (k := 4) rfl rfl (by decide) rfl (fun ls hl => ?_)
        refine lv_goto (tgt := 117) hx hb d_S_measure_174 (by decide) ?_
        exact ih (v4_274 + 1) q277.2 _ _ _ ls _ hf (lv_sub hl [1, 2, 3, 4, 0] rfl) hP hD hS hN_S hN_H hN_HA hN_V hN_Q hw kt0
  obtain ⟨q273, hc, hf⟩ := z_b hf
  refine lp276 _ FU (0 : Int32) (0 : Int32) _ _ _ ls q273 hc (lv_sub hl [1, 2, 3, 4, 0] rfl) hP hD hS hN_S hN_H hN_HA hN_V hN_Q hw (fun ws H locs ls hl hP hD hS hN_S hN_H hN_HA hN_V hN_Q hw => ?_)
  refine lv_iload_n hx hb d_S_measure_177 rfl (lv_at hl 3 rfl) ?_
  obtain rfl := Option.some.inj hf
  exact W.iret hx hb hr (fun t ht hW => ⟨⟨_, ws, rfl, (by dsimp only; exact ⟨rfl, hN_S, hN_V, hN_Q, hw⟩), by rw [ht]; exact hP, va_K.moved hW.alike hK, hD⟩, hS.F ht⟩) hS.2.2 d_S_measure_178
