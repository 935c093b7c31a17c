def f_G_brightestQuarter_14 (p1 : Int32) (p2 : Int32) (p3 : Int32) (p4 : Int32) (G_side : Int32) (GA_n : Nat) (GA_f : Nat → Int32) : Nat → Int32 → Int32 → Int32 → Option (Int32 × Int32 × Int32)
  | 0, _, _, _ => none
  | n + 1, v5, v6, v7 => if (4 : Int32) ≤ v7 then (some (v5, v6, v7)) else ((f_F_acrossOf v7).bind (fun q89 => (f_F_downOf v7).bind (fun q91 => (f_G_sum (p1 + (q89 * p4)) (p2 + (q91 * p4)) p4 G_side GA_n GA_f).bind (fun q93 => if q93 ≤ v6 then (f_G_brightestQuarter_14 p1 p2 p3 p4 G_side GA_n GA_f n v5 v6 (v7 + 1)) else (f_G_brightestQuarter_14 p1 p2 p3 p4 G_side GA_n GA_f n v7 q93 (v7 + 1))))))
def f_G_brightestQuarter (x1 : Int32) (x2 : Int32) (x3 : Int32) (G_side : Int32) (GA_n : Nat) (GA_f : Nat → Int32) : Option (Int32) := (f_G_brightestQuarter_14 x1 x2 x3 (x3 / (2 : Int32)) G_side GA_n GA_f FU (0 : Int32) ((-1) : Int32) (0 : Int32)).bind (fun q95 => some q95.1)
set_option maxHeartbeats 4000000 in
set_option maxRecDepth 100000 in
theorem c_G_brightestQuarter (l : Launch) (dC : Nat → ClassId) (dI : Nat → Nat → Nat) (cI cL : ClassId) {ws : va_W} {kG kGA aG aGA : Nat} {G_mostSide G_side : Int32} {GA_n : Nat} {GA_f : Nat → Int32} (x1 : Int32) (x2 : Int32) (x3 : Int32) (hN_G : zA ws kG (aG, .inr (1, [.int G_mostSide, .ref aGA, .int G_side]))) (hN_GA : zA ws kGA (aGA, .inl (cI, GA_n, .inl GA_f))) (r : Int32) (hf : f_G_brightestQuarter x1 x2 x3 G_side GA_n GA_f = some r) : Met l y_G_brightestQuarter w_G_brightestQuarter rm_G_brightestQuarter (va_Pc [.ref aG, .int x1, .int x2, .int x3] (zR dC dI cI cL ws)) (vp_Si (fun v => v = r)) 0 0 (fun _ => False) := by
  refine Met.ofW (cc := b_G_brightestQuarter) (maxL := 9) (ret := some .int) (by decide) rfl ?_
  intro p e s m args below meth c s₁ B hml hv
  obtain ⟨rfl, hP, hK, hZ⟩ := hv
  have hx := B.exec
  have hb := B.bytes
  have hr := B.returns
  have hlocks := B.notSynchronized
  have hts : ∀ w ∈ BIG, w.before ([.ref aG, .int x1, .int x2, .int x3] : List Value).toArray s = true := fun w h => atoms_spec (ws := w_G_brightestQuarter) B.pre w (List.mem_cons_of_mem _ h)
  have hown : s.vm.findClass "FractalMaps$Grid" = some m.cls := findClass_of_methodNamed B.named
  have hl := lv_entry ([.ref aG, .int x1, .int x2, .int x3]) (n := 9) (Nat.le_of_ble_eq_true rfl)
  rw [lg_entry_eq]
  generalize (lg_sl ([.ref aG, .int x1, .int x2, .int x3]) ++ List.replicate (9 - (lg_sl ([.ref aG, .int x1, .int x2, .int x3])).length) Slot.unset).toArray = ls at hl ⊢
  have hl : lv_has ls 9 [(0, .ref aG), (1, .int x1), (2, .int x2), (3, .int x3)] := hl
  unfold f_G_brightestQuarter at hf
  refine lv_iload_n hx hb d_G_brightestQuarter_0 rfl (lv_at hl 3 rfl) ?_
  refine lv_iconst (v := 2) hx hb d_G_brightestQuarter_1 (by decide) ?_
  refine lv_idiv hx hb d_G_brightestQuarter_2 (by decide) ?_
  refine lv_istore (lv' := [(4, .int (x3 / (2 : Int32))), (0, .ref aG), (1, .int x1), (2, .int x2), (3, .int x3)]) hx hb d_G_brightestQuarter_3 hl (by decide) rfl (fun ls hl => ?_)
  refine lv_iconst (v := 0) hx hb d_G_brightestQuarter_5 (by decide) ?_
  refine lv_istore (lv' := [(5, .int (0 : Int32)), (4, .int (x3 / (2 : Int32))), (0, .ref aG), (1, .int x1), (2, .int x2), (3, .int x3)]) hx hb d_G_brightestQuarter_6 hl (by decide) rfl (fun ls hl => ?_)
  refine lv_iconst (v := (-1)) hx hb d_G_brightestQuarter_8 (by decide) ?_
  refine lv_istore (lv' := [(6, .int ((-1) : Int32)), (5, .int (0 : Int32)), (4, .int (x3 / (2 : Int32))), (0, .ref aG), (1, .int x1), (2, .int x2), (3, .int x3)]) hx hb d_G_brightestQuarter_9 hl (by decide) rfl (fun ls hl => ?_)
  refine lv_iconst (v := 0) hx hb d_G_brightestQuarter_11 (by decide) ?_
  refine lv_istore (lv' := [(7, .int (0 : Int32)), (6, .int ((-1) : Int32)), (5, .int (0 : Int32)), (4, .int (x3 / (2 : Int32))), (0, .ref aG), (1, .int x1), (2, .int x2), (3, .int x3)]) hx hb d_G_brightestQuarter_12 hl (by decide) rfl (fun ls hl => ?_)
  have lp99 : ∀ (Qx : State → Prop) (n : Nat) (v5_96 : Int32) (v6_97 : Int32) (v7_98 : Int32) (ls : Array Slot) (q : Int32 × Int32 × Int32) (hf : f_G_brightestQuarter_14 x1 x2 x3 (x3 / (2 : Int32)) G_side GA_n GA_f n v5_96 v6_97 v7_98 = some q) (hl : lv_has ls 9 [(0, .ref aG), (1, .int x1), (2, .int x2), (3, .int x3), (4, .int (x3 / (2 : Int32))), (5, .int v5_96), (6, .int v6_97), (7, .int v7_98)]) (kt0 : ∀ (ls : Array Slot), lv_has ls 9 [(0, .ref aG), (1, .int x1), (2, .int x2), (3, .int x3), (4, .int (x3 / (2 : Int32))), (5, .int q.1), (6, .int q.2.1), (7, .int q.2.2)] → W p l e (headSpec w_G_brightestQuarter rm_G_brightestQuarter).room s m ([.ref aG, .int x1, .int x2, .int x3] : List Value).toArray below meth c s.heap [] 0 0 Qx (F0 m 69 ls [])), W p l e (headSpec w_G_brightestQuarter rm_G_brightestQuarter).room s m ([.ref aG, .int x1, .int x2, .int x3] : List Value).toArray below meth c s.heap [] 0 0 Qx (F0 m 14 ls []) := by
    intro Qx n
    induction n with
    | zero => intro v5_96 v6_97 v7_98 ls q hf; cases hf
    | succ n ih =>
      intro v5_96 v6_97 v7_98 ls q hf hl kt0
      rw [f_G_brightestQuarter_14] at hf
      refine lv_iload hx hb d_G_brightestQuarter_14 (lv_at hl 7 rfl) ?_
      refine lv_iconst (v := 4) hx hb d_G_brightestQuarter_16 (by decide) ?_
      refine lv_icmp_ge (tgt := 69) hx hb d_G_brightestQuarter_17 (by decide) (fun hc => ?_) (fun hc => ?_)
      · have hf := z_t hc hf
        obtain rfl := Option.some.inj hf
        exact kt0 ls (lv_sub hl [0, 1, 2, 3, 4, 5, 6, 7] rfl)
      · have hf := z_f hc hf
        refine lv_aload_n hx hb d_G_brightestQuarter_20 rfl (lv_at hl 0 rfl) ?_
        refine lv_iload_n hx hb d_G_brightestQuarter_21 rfl (lv_at hl 1 rfl) ?_
        refine lv_iload hx hb d_G_brightestQuarter_22 (lv_at hl 7 rfl) ?_
        obtain ⟨q100, hc, hf⟩ := z_b hf
        refine vp_callSi (z_cr (va_runSN (As := [.int v7_98]) (rest := [.int x1, .ref aG]) ⟨hx, hb, hml, hown, hts⟩ (c_F_acrossOf l v7_98 q100 hc) (cw_G_52 hts hZ ⟨Nat.le_of_ble_eq_true rfl, Nat.le_of_ble_eq_true rfl⟩) ⟨zb0, zp0⟩ rfl rfl hl.1 rfl (lv_room (Nat.le_of_ble_eq_true rfl)) d_G_brightestQuarter_24 ⟨Nat.zero_le _, Nat.zero_le _⟩)) (fun r101 hv => ?_)
        have hv := hv.symm
        subst hv
        refine lv_iload hx hb d_G_brightestQuarter_27 (lv_at hl 4 rfl) ?_
        refine lv_imul hx hb d_G_brightestQuarter_29 ?_
        refine lv_iadd hx hb d_G_brightestQuarter_30 ?_
        refine lv_iload_n hx hb d_G_brightestQuarter_31 rfl (lv_at hl 2 rfl) ?_
        refine lv_iload hx hb d_G_brightestQuarter_32 (lv_at hl 7 rfl) ?_
        obtain ⟨q102, hc, hf⟩ := z_b hf
        refine vp_callSi (z_cr (va_runSN (As := [.int v7_98]) (rest := [.int x2, .int (x1 + (q100 * (x3 / (2 : Int32)))), .ref aG]) ⟨hx, hb, hml, hown, hts⟩ (c_F_downOf l v7_98 q102 hc) (cw_G_56 hts hZ ⟨Nat.le_of_ble_eq_true rfl, Nat.le_of_ble_eq_true rfl⟩) ⟨zb0, zp0⟩ rfl rfl hl.1 rfl (lv_room (Nat.le_of_ble_eq_true rfl)) d_G_brightestQuarter_34 ⟨Nat.zero_le _, Nat.zero_le _⟩)) (fun r103 hv => ?_)
        have hv := hv.symm
        subst hv
        refine lv_iload hx hb d_G_brightestQuarter_37 (lv_at hl 4 rfl) ?_
        refine lv_imul hx hb d_G_brightestQuarter_39 ?_
        refine lv_iadd hx hb d_G_brightestQuarter_40 ?_
        refine lv_iload hx hb d_G_brightestQuarter_41 (lv_at hl 4 rfl) ?_
        obtain ⟨q104, hc, hf⟩ := z_b hf
        refine vp_callSi (z_cr (va_runV (As := [.int (x1 + (q100 * (x3 / (2 : Int32)))), .int (x2 + (q102 * (x3 / (2 : Int32)))), .int (x3 / (2 : Int32))]) (rest := []) ⟨hx, hb, hml, hown, hts⟩ (c_G_sum l dC dI cI cL (x1 + (q100 * (x3 / (2 : Int32)))) (x2 + (q102 * (x3 / (2 : Int32)))) (x3 / (2 : Int32)) hN_G hN_GA q104 hc) (cw_G_41 hts ⟨Nat.le_of_ble_eq_true rfl, Nat.le_of_ble_eq_true rfl⟩) ⟨zbR, va_recv hK hP (ci := 1) rfl hN_G, (zpR hP hK hZ)⟩ rfl rfl hl.1 rfl (lv_room (Nat.le_of_ble_eq_true rfl)) d_G_brightestQuarter_43 ⟨Nat.zero_le _, Nat.zero_le _⟩)) (fun r105 hv => ?_)
        have hv := hv.symm
        subst hv
        refine lv_istore (lv' := [(8, .int q104), (0, .ref aG), (1, .int x1), (2, .int x2), (3, .int x3), (4, .int (x3 / (2 : Int32))), (5, .int v5_96), (6, .int v6_97), (7, .int v7_98)]) hx hb d_G_brightestQuarter_46 hl (by decide) rfl (fun ls hl => ?_)
        refine lv_iload hx hb d_G_brightestQuarter_48 (lv_at hl 0 rfl) ?_
        refine lv_iload hx hb d_G_brightestQuarter_50 (lv_at hl 7 rfl) ?_
        refine lv_icmp_le (tgt := 63) hx hb d_G_brightestQuarter_52 (by decide) (fun hc => ?_) (fun hc => ?_)
        · have hf := z_t hc hf
          refine lv_iinc (v := (v7_98 + 1)) (lv' := [(7, .int (v7_98 + 1)), (8, .int q104), (0, .ref aG), (1, .int x1), (2, .int x2), (3, .int x3), (4, .int (x3 / (2 : Int32))), (5, .int v5_96), (6, .int v6_97)]) hx hb d_G_brightestQuarter_63 hl (k := 8) rfl rfl (by decide) rfl (fun ls hl => ?_)
          refine lv_goto (tgt := 14) hx hb d_G_brightestQuarter_66 (by decide) ?_
          exact ih v5_96 v6_97 (v7_98 + 1) ls _ hf (lv_sub hl [2, 3, 4, 5, 6, 7, 8, 0] rfl) kt0
        · have hf := z_f hc hf
          refine lv_iload hx hb d_G_brightestQuarter_55 (lv_at hl 0 rfl) ?_
          refine lv_istore (lv' := [(6, .int q104), (8, .int q104), (0, .ref aG), (1, .int x1), (2, .int x2), (3, .int x3), (4, .int (x3 / (2 : Int32))), (5, .int v5_96), (7, .int v7_98)]) hx hb d_G_brightestQuarter_57 hl (by decide) rfl (fun ls hl => ?_)
          refine lv_iload hx hb d_G_brightestQuarter_59 (lv_at hl 8 rfl) ?_
          refine lv_istore (lv' := [(5, .int v7_98), (6, .int q104), (8, .int q104), (0, .ref aG), (1, .int x1), (2, .int x2), (3, .int x3), (4, .int (x3 / (2 : Int32))), (7, .int v7_98)]) hx hb d_G_brightestQuarter_61 hl (by decide) rfl (fun ls hl => ?_)
          refine lv_iinc (v := (v7_98 + 1)) (lv' := [(7, .int (v7_98 + 1)), (5, .int v7_98), (6, .int q104), (8, .int q104), (0, .ref aG), (1, .int x1), (2, .int x2), (3, .int x3), (4, .int (x3 / (2 : Int32)))]) hx hb d_G_brightestQuarter_63 hl (k := 8) rfl rfl (by decide) rfl (fun ls hl => ?_)
          refine lv_goto (tgt := 14) hx hb d_G_brightestQuarter_66 (by decide) ?_
          exact ih v7_98 q104 (v7_98 + 1) ls _ hf (lv_sub hl [4, 5, 6, 7, 8, 1, 2, 0] rfl) kt0
  obtain ⟨q95, hc, hf⟩ := z_b hf
  refine lp99 _ FU (0 : Int32) ((-1) : Int32) (0 : Int32) ls q95 hc (lv_sub hl [4, 5, 6, 7, 3, 2, 1, 0] rfl) (fun ls hl => ?_)
  refine lv_iload hx hb d_G_brightestQuarter_69 (lv_at hl 5 rfl) ?_
  obtain rfl := Option.some.inj hf
  exact W.iret hx hb hr (fun t ht hW => ⟨_, rfl, rfl, ht⟩) (fun q h => by cases h) d_G_brightestQuarter_71
def f_F_kind (x1 : Int32) (x2 : Int32) (x3 : Int32) (O_side : Int32) (P_side : Int32) (PA_n : Nat) (PA_f : Nat → Int32) : Option (Nat ⊕ (Int32)) := (f_F_isSize x3).bind (fun q106 => if q106 = 0 then (some (.inl 2)) else (if x1 < 0 then (some (.inl 1)) else (if (O_side - x3) < x1 then (some (.inl 1)) else (if x2 < 0 then (some (.inl 1)) else (if x2 ≤ (O_side - x3) then ((f_G_brightestQuarter x1 x2 x3 P_side PA_n PA_f).bind (fun q108 => some (.inr q108))) else (some (.inl 1)))))))
set_option maxHeartbeats 4000000 in
set_option maxRecDepth 100000 in
theorem c_F_kind (l : Launch) (hfl : l.flags = pinnedFlags ++ [noTraceFlag]) (dC : Nat → ClassId) (dI : Nat → Nat → Nat) (cI cL : ClassId) {ws0 : va_W} (sz : Nat) {aO aP aN aH aV aS aK aT aC aI aPA : Nat} {O_side P_mostSide P_side : Int32} {PA_n : Nat} {PA_f : Nat → Int32} (x1 : Int32) (x2 : Int32) (x3 : Int32) (hN_O : zA ws0 0 (aO, .inr (0, [.int O_side, .ref aP, .ref aN, .ref aH, .ref aV, .ref aS, .ref aK, .ref aT, .ref aC, .ref aI]))) (hN_P : zA ws0 1 (aP, .inr (1, [.int P_mostSide, .ref aPA, .int P_side]))) (hN_PA : zA ws0 2 (aPA, .inl (cI, PA_n, .inl PA_f))) (r : Nat ⊕ (Int32)) (hf : f_F_kind x1 x2 x3 O_side P_side PA_n PA_f = some r) : MetT l y_F_kind w_F_kind rm_F_kind (va_Pc [.ref aO, .int x1, .int x2, .int x3] (zMT dC dI cI cL ws0 sz)) (zX (fun (v : Int32) (ws' : va_W) => ∃ r1, r = .inr r1 ∧ v = r1 ∧ ∀ (j : Nat), j ∉ ([] : List Nat) → ws'[j]? = ws0[j]?) (fun k => r = .inl k) Value.int (zQ dC dI cI cL (va_A ws0 sz)) ws0 (va_A ws0 sz)) 1 6 (va_A ws0 sz) := by
  refine MetT.ofW (cc := b_F_kind) (maxL := 4) (ret := some .int) (by decide) rfl ?_
  intro p e s m args below meth c s₁ B hml hv
  obtain ⟨rfl, hsz, hP, hK, hZ, hD0, hX⟩ := hv
  have hx := B.exec
  have hb := B.bytes
  have hr := B.returns
  have hlocks := B.notSynchronized
  have hts : ∀ w ∈ BIG, w.before ([.ref aO, .int x1, .int x2, .int x3] : List Value).toArray s = true := fun w h => atoms_spec (ws := w_F_kind) B.pre w (List.mem_cons_of_mem _ h)
  have hown : s.vm.findClass "FractalMaps" = some m.cls := findClass_of_methodNamed B.named
  have hout : c.exceptionTable.toList = [] := by simpa using B.noHandlers (atoms_spec (ws := w_F_kind) B.pre _ List.mem_cons_self)
  subst hsz
  have hD := hD0.self (sz := s.heap.size)
  generalize hAe : va_A ws0 s.heap.size = A at hD ⊢
  have hA : ∀ q : Nat, s.heap.size ≤ q → A q := fun q h => by rw [← hAe]; exact Or.inr h
  have hS : va_S A s.heap s.heap [] := va_S.rf
  have hw : ∀ (j : Nat), j ∉ ([] : List Nat) → ws0[j]? = ws0[j]? := fun _ _ => rfl
  have hl := lv_entry ([.ref aO, .int x1, .int x2, .int x3]) (n := 4) (Nat.le_of_ble_eq_true rfl)
  rw [lg_entry_eq]
  generalize (lg_sl ([.ref aO, .int x1, .int x2, .int x3]) ++ List.replicate (4 - (lg_sl ([.ref aO, .int x1, .int x2, .int x3])).length) Slot.unset).toArray = ls at hl ⊢
  have hl : lv_has ls 4 [(0, .ref aO), (1, .int x1), (2, .int x2), (3, .int x3)] := hl
  unfold f_F_kind at hf
  refine lv_iload_n hx hb d_F_kind_0 rfl (lv_at hl 3 rfl) ?_
  obtain ⟨q106, hc, hf⟩ := z_b hf
  refine vp_callSi (z_cr (va_runS (As := [.int x3]) (rest := []) ⟨hx, hb, hml, hown, hts⟩ (c_F_isSize l x3 q106 hc) (cw_F_110 hts ⟨Nat.le_of_ble_eq_true rfl, Nat.le_of_ble_eq_true rfl⟩) ⟨zb0, zp0⟩ rfl rfl hl.1 rfl (lv_room (Nat.le_of_ble_eq_true rfl)) d_F_kind_1 ⟨Nat.zero_le _, Nat.zero_le _⟩)) (fun r107 hv => ?_)
  have hv := hv.symm
  subst hv
  refine lv_if_ne (tgt := 17) hx hb d_F_kind_4 (by decide) (fun hc => ?_) (fun hc => ?_)
  · have hf := z_f hc hf
    refine lv_iload_n hx hb d_F_kind_17 rfl (lv_at hl 1 rfl) ?_
    refine lv_if_lt (tgt := 45) hx hb d_F_kind_18 (by decide) (fun hc => ?_) (fun hc => ?_)
    · have hf := z_t hc hf
      obtain rfl := Option.some.inj hf
      exact z_throw (own := "FractalMaps") (cls := "java/lang/IndexOutOfBoundsException") (tx := "the square is not all in the picture") (names := exNames) (k := 1) hfl hx hb hml hl.1 hlocks hown hout hts hX hP hK hD hA (by decide +kernel) (by decide +kernel) oa_89 k_407 k_408 k_49 (by decide +kernel) rfl rfl d_F_kind_45 d_F_kind_48 d_F_kind_49 d_F_kind_51 d_F_kind_54 (Nat.le_of_ble_eq_true rfl) (Nat.le_of_ble_eq_true rfl) (Nat.le_of_ble_eq_true rfl) (Nat.le_of_ble_eq_true rfl)
    · have hf := z_f hc hf
      refine lv_iload_n hx hb d_F_kind_21 rfl (lv_at hl 1 rfl) ?_
      refine lv_aload_n hx hb d_F_kind_22 rfl (lv_at hl 0 rfl) ?_
      refine gf_F_16 (v := .int O_side) hx hb hts hown hK hP hN_O rfl d_F_kind_23 ?_
      refine lv_iload_n hx hb d_F_kind_26 rfl (lv_at hl 3 rfl) ?_
      refine lv_isub hx hb d_F_kind_27 ?_
      refine lv_icmp_gt (tgt := 45) hx hb d_F_kind_28 (by decide) (fun hc => ?_) (fun hc => ?_)
      · have hf := z_t hc hf
        obtain rfl := Option.some.inj hf
        exact z_throw (own := "FractalMaps") (cls := "java/lang/IndexOutOfBoundsException") (tx := "the square is not all in the picture") (names := exNames) (k := 1) hfl hx hb hml hl.1 hlocks hown hout hts hX hP hK hD hA (by decide +kernel) (by decide +kernel) oa_89 k_407 k_408 k_49 (by decide +kernel) rfl rfl d_F_kind_45 d_F_kind_48 d_F_kind_49 d_F_kind_51 d_F_kind_54 (Nat.le_of_ble_eq_true rfl) (Nat.le_of_ble_eq_true rfl) (Nat.le_of_ble_eq_true rfl) (Nat.le_of_ble_eq_true rfl)
      · have hf := z_f hc hf
        refine lv_iload_n hx hb d_F_kind_31 rfl (lv_at hl 2 rfl) ?_
        refine lv_if_lt (tgt := 45) hx hb d_F_kind_32 (by decide) (fun hc => ?_) (fun hc => ?_)
        · have hf := z_t hc hf
          obtain rfl := Option.some.inj hf
          exact z_throw (own := "FractalMaps") (cls := "java/lang/IndexOutOfBoundsException") (tx := "the square is not all in the picture") (names := exNames) (k := 1) hfl hx hb hml hl.1 hlocks hown hout hts hX hP hK hD hA (by decide +kernel) (by decide +kernel) oa_89 k_407 k_408 k_49 (by decide +kernel) rfl rfl d_F_kind_45 d_F_kind_48 d_F_kind_49 d_F_kind_51 d_F_kind_54 (Nat.le_of_ble_eq_true rfl) (Nat.le_of_ble_eq_true rfl) (Nat.le_of_ble_eq_true rfl) (Nat.le_of_ble_eq_true rfl)
        · have hf := z_f hc hf
          refine lv_iload_n hx hb d_F_kind_35 rfl (lv_at hl 2 rfl) ?_
          refine lv_aload_n hx hb d_F_kind_36 rfl (lv_at hl 0 rfl) ?_
          refine gf_F_16 (v := .int O_side) hx hb hts hown hK hP hN_O rfl d_F_kind_37 ?_
          refine lv_iload_n hx hb d_F_kind_40 rfl (lv_at hl 3 rfl) ?_
          refine lv_isub hx hb d_F_kind_41 ?_
          refine lv_icmp_le (tgt := 55) hx hb d_F_kind_42 (by decide) (fun hc => ?_) (fun hc => ?_)
          · have hf := z_t hc hf
            refine lv_aload_n hx hb d_F_kind_55 rfl (lv_at hl 0 rfl) ?_
            refine gf_F_27 (v := .ref aP) hx hb hts hown hK hP hN_O rfl d_F_kind_56 ?_
            refine lv_iload_n hx hb d_F_kind_59 rfl (lv_at hl 1 rfl) ?_
            refine lv_iload_n hx hb d_F_kind_60 rfl (lv_at hl 2 rfl) ?_
            refine lv_iload_n hx hb d_F_kind_61 rfl (lv_at hl 3 rfl) ?_
            obtain ⟨q108, hc, hf⟩ := z_b hf
            refine vp_callSi (z_cr (va_runV (As := [.int x1, .int x2, .int x3]) (rest := []) ⟨hx, hb, hml, hown, hts⟩ (c_G_brightestQuarter l dC dI cI cL x1 x2 x3 hN_P hN_PA q108 hc) (cw_F_208 hts ⟨Nat.le_of_ble_eq_true rfl, Nat.le_of_ble_eq_true rfl⟩) ⟨zbR, va_recv hK hP (ci := 1) rfl hN_P, (zpR hP hK hZ)⟩ rfl rfl hl.1 rfl (lv_room (Nat.le_of_ble_eq_true rfl)) d_F_kind_62 ⟨Nat.zero_le _, Nat.zero_le _⟩)) (fun r109 hv => ?_)
            have hv := hv.symm
            subst hv
            obtain rfl := Option.some.inj hf
            exact z_iretT hx hb hr hlocks (fun t ht hW => ⟨Or.inl ⟨_, ws0, rfl, ⟨_, rfl, rfl, hw⟩, by rw [ht]; exact hP, va_K.moved hW.alike hK, hD⟩, hS.F ht⟩) hS.2.2 d_F_kind_65 (Nat.zero_le _) (Nat.zero_le _)
          · have hf := z_f hc hf
            obtain rfl := Option.some.inj hf
            exact z_throw (own := "FractalMaps") (cls := "java/lang/IndexOutOfBoundsException") (tx := "the square is not all in the picture") (names := exNames) (k := 1) hfl hx hb hml hl.1 hlocks hown hout hts hX hP hK hD hA (by decide +kernel) (by decide +kernel) oa_89 k_407 k_408 k_49 (by decide +kernel) rfl rfl d_F_kind_45 d_F_kind_48 d_F_kind_49 d_F_kind_51 d_F_kind_54 (Nat.le_of_ble_eq_true rfl) (Nat.le_of_ble_eq_true rfl) (Nat.le_of_ble_eq_true rfl) (Nat.le_of_ble_eq_true rfl)
  · have hf := z_t hc hf
    obtain rfl := Option.some.inj hf
    exact z_throw (own := "FractalMaps") (cls := "java/lang/IllegalArgumentException") (tx := "no such size") (names := exNames) (k := 2) hfl hx hb hml hl.1 hlocks hown hout hts hX hP hK hD hA (by decide +kernel) (by decide +kernel) oa_96 k_476 k_477 k_50 (by decide +kernel) rfl rfl d_F_kind_7 d_F_kind_10 d_F_kind_11 d_F_kind_13 d_F_kind_16 (Nat.le_of_ble_eq_true rfl) (Nat.le_of_ble_eq_true rfl) (Nat.le_of_ble_eq_true rfl) (Nat.le_of_ble_eq_true rfl)
def f_F_domainsAcross (x1 : Int32) (x2 : Int32) : Option (Int32) := if x2 < (1 : Int32) then (some (0 : Int32)) else (if x2 ≤ x1 then (if x2 = 0 then none else (some ((x1 / x2) - (1 : Int32)))) else (some (0 : Int32)))
set_option maxHeartbeats 4000000 in
set_option maxRecDepth 100000 in
theorem c_F_domainsAcross (l : Launch) (x1 : Int32) (x2 : Int32) (r : Int32) (hf : f_F_domainsAcross x1 x2 = some r) : Met l y_F_domainsAcross w_F_domainsAcross rm_F_domainsAcross (va_Pc [.int x1, .int x2] (fun _ => True)) (vp_Si (fun v => v = r)) 0 0 (fun _ => False) := by
  refine Met.ofW (cc := b_F_domainsAcross) (maxL := 2) (ret := some .int) (by decide) rfl ?_
  intro p e s m args below meth c s₁ B hml hv
  obtain ⟨rfl, -⟩ := hv
  have hx := B.exec
  have hb := B.bytes
  have hr := B.returns
  have hlocks := B.notSynchronized
  have hts : ∀ w ∈ BIG, w.before ([.int x1, .int x2] : List Value).toArray s = true := fun w h => atoms_spec (ws := w_F_domainsAcross) B.pre w (List.mem_cons_of_mem _ h)
  have hown : s.vm.findClass "FractalMaps" = some m.cls := findClass_of_methodNamed B.named
  have hl := lv_entry ([.int x1, .int x2]) (n := 2) (Nat.le_of_ble_eq_true rfl)
  rw [lg_entry_eq]
  generalize (lg_sl ([.int x1, .int x2]) ++ List.replicate (2 - (lg_sl ([.int x1, .int x2])).length) Slot.unset).toArray = ls at hl ⊢
  have hl : lv_has ls 2 [(0, .int x1), (1, .int x2)] := hl
  unfold f_F_domainsAcross at hf
  refine lv_iload_n hx hb d_F_domainsAcross_0 rfl (lv_at hl 1 rfl) ?_
  refine lv_iconst (v := 1) hx hb d_F_domainsAcross_1 (by decide) ?_
  refine lv_icmp_lt (tgt := 10) hx hb d_F_domainsAcross_2 (by decide) (fun hc => ?_) (fun hc => ?_)
  · have hf := z_t hc hf
    refine lv_iconst (v := 0) hx hb d_F_domainsAcross_10 (by decide) ?_
    refine lv_goto (tgt := 19) hx hb d_F_domainsAcross_11 (by decide) ?_
    obtain rfl := Option.some.inj hf
    exact W.iret hx hb hr (fun t ht hW => ⟨_, rfl, rfl, ht⟩) (fun q h => by cases h) d_F_domainsAcross_19
  · have hf := z_f hc hf
    refine lv_iload_n hx hb d_F_domainsAcross_5 rfl (lv_at hl 1 rfl) ?_
    refine lv_iload_n hx hb d_F_domainsAcross_6 rfl (lv_at hl 0 rfl) ?_
    refine lv_icmp_le (tgt := 14) hx hb d_F_domainsAcross_7 (by decide) (fun hc => ?_) (fun hc => ?_)
    · have hf := z_t hc hf
      refine lv_iload_n hx hb d_F_domainsAcross_14 rfl (lv_at hl 0 rfl) ?_
      refine lv_iload_n hx hb d_F_domainsAcross_15 rfl (lv_at hl 1 rfl) ?_
      obtain ⟨hne, hf⟩ := z_no hf
      refine lv_idiv hx hb d_F_domainsAcross_16 hne ?_
      refine lv_iconst (v := 1) hx hb d_F_domainsAcross_17 (by decide) ?_
      refine lv_isub hx hb d_F_domainsAcross_18 ?_
      obtain rfl := Option.some.inj hf
      exact W.iret hx hb hr (fun t ht hW => ⟨_, rfl, rfl, ht⟩) (fun q h => by cases h) d_F_domainsAcross_19
    · have hf := z_f hc hf
      refine lv_iconst (v := 0) hx hb d_F_domainsAcross_10 (by decide) ?_
      refine lv_goto (tgt := 19) hx hb d_F_domainsAcross_11 (by decide) ?_
      obtain rfl := Option.some.inj hf
      exact W.iret hx hb hr (fun t ht hW => ⟨_, rfl, rfl, ht⟩) (fun q h => by cases h) d_F_domainsAcross_19
def f_F_domainsOf (x1 : Int32) (x2 : Int32) : Option (Int32) := (f_F_domainsAcross x1 x2).bind (fun q110 => some (q110 * q110))
set_option maxHeartbeats 4000000 in
set_option maxRecDepth 100000 in
theorem c_F_domainsOf (l : Launch) (x1 : Int32) (x2 : Int32) (r : Int32) (hf : f_F_domainsOf x1 x2 = some r) : Met l y_F_domainsOf w_F_domainsOf rm_F_domainsOf (va_Pc [.int x1, .int x2] (fun _ => True)) (vp_Si (fun v => v = r)) 0 0 (fun _ => False) := by
  refine Met.ofW (cc := b_F_domainsOf) (maxL := 3) (ret := some .int) (by decide) rfl ?_
  intro p e s m args below meth c s₁ B hml hv
  obtain ⟨rfl, -⟩ := hv
  have hx := B.exec
  have hb := B.bytes
  have hr := B.returns
  have hlocks := B.notSynchronized
  have hts : ∀ w ∈ BIG, w.before ([.int x1, .int x2] : List Value).toArray s = true := fun w h => atoms_spec (ws := w_F_domainsOf) B.pre w (List.mem_cons_of_mem _ h)
  have hown : s.vm.findClass "FractalMaps" = some m.cls := findClass_of_methodNamed B.named
  have hl := lv_entry ([.int x1, .int x2]) (n := 3) (Nat.le_of_ble_eq_true rfl)
  rw [lg_entry_eq]
  generalize (lg_sl ([.int x1, .int x2]) ++ List.replicate (3 - (lg_sl ([.int x1, .int x2])).length) Slot.unset).toArray = ls at hl ⊢
  have hl : lv_has ls 3 [(0, .int x1), (1, .int x2)] := hl
  unfold f_F_domainsOf at hf
  refine lv_iload_n hx hb d_F_domainsOf_0 rfl (lv_at hl 0 rfl) ?_
  refine lv_iload_n hx hb d_F_domainsOf_1 rfl (lv_at hl 1 rfl) ?_
  obtain ⟨q110, hc, hf⟩ := z_b hf
  refine vp_callSi (z_cr (va_runS (As := [.int x1, .int x2]) (rest := []) ⟨hx, hb, hml, hown, hts⟩ (c_F_domainsAcross l x1 x2 q110 hc) (cw_F_287 hts ⟨Nat.le_of_ble_eq_true rfl, Nat.le_of_ble_eq_true rfl⟩) ⟨zb0, zp0⟩ rfl rfl hl.1 rfl (lv_room (Nat.le_of_ble_eq_true rfl)) d_F_domainsOf_2 ⟨Nat.zero_le _, Nat.zero_le _⟩)) (fun r111 hv => ?_)
  have hv := hv.symm
  subst hv
  refine lv_istore_n (lv' := [(2, .int q110), (0, .int x1), (1, .int x2)]) hx hb d_F_domainsOf_5 rfl hl (by decide) rfl (fun ls hl => ?_)
  refine lv_iload_n hx hb d_F_domainsOf_6 rfl (lv_at hl 0 rfl) ?_
  refine lv_iload_n hx hb d_F_domainsOf_7 rfl (lv_at hl 0 rfl) ?_
  refine lv_imul hx hb d_F_domainsOf_8 ?_
  obtain rfl := Option.some.inj hf
  exact W.iret hx hb hr (fun t ht hW => ⟨_, rfl, rfl, ht⟩) (fun q h => by cases h) d_F_domainsOf_9
def f_G_becomeHalfOf_29 (p2 : Int32) (G_side : Int32) (GA_n : Nat) (yG_side : Int32) (yGA_n : Nat) (yGA_f : Nat → Int32) : Nat → Int32 → (Nat → Int32) → Option (Int32 × (Nat → Int32))
  | 0, _, _ => none
  | n + 1, v3, GA_f => if G_side ≤ v3 then (some (v3, GA_f)) else ((f_G_sum ((2 : Int32) * v3) ((2 : Int32) * p2) (2 : Int32) yG_side yGA_n yGA_f).bind (fun q112 => (f_G_set v3 p2 ((q112 + (2 : Int32)) / (4 : Int32)) G_side GA_n GA_f).bind (fun q114 => f_G_becomeHalfOf_29 p2 G_side GA_n yG_side yGA_n yGA_f n (v3 + 1) q114)))
def f_G_becomeHalfOf_19 (G_side : Int32) (GA_n : Nat) (yG_side : Int32) (yGA_n : Nat) (yGA_f : Nat → Int32) : Nat → Int32 → (Nat → Int32) → Option (Int32 × (Nat → Int32))
  | 0, _, _ => none
  | n + 1, v2, GA_f => if G_side ≤ v2 then (some (v2, GA_f)) else ((f_G_becomeHalfOf_29 v2 G_side GA_n yG_side yGA_n yGA_f FU (0 : Int32) GA_f).bind (fun q115 => f_G_becomeHalfOf_19 G_side GA_n yG_side yGA_n yGA_f n (v2 + 1) q115.2))
def f_G_becomeHalfOf (G_mostSide : Int32) (G_side : Int32) (GA_n : Nat) (GA_f : Nat → Int32) (yG_side : Int32) (yGA_n : Nat) (yGA_f : Nat → Int32) : Option (Int32 × (Nat → Int32)) := (f_G_becomeHalfOf_19 (if G_mostSide < (yG_side / (2 : Int32)) then G_mostSide else (yG_side / (2 : Int32))) GA_n yG_side yGA_n yGA_f FU (0 : Int32) GA_f).bind (fun q122 => some ((if G_mostSide < (yG_side / (2 : Int32)) then G_mostSide else (yG_side / (2 : Int32))), q122.2))
set_option maxHeartbeats 4000000 in
set_option maxRecDepth 100000 in
theorem c_G_becomeHalfOf (l : Launch) (dC : Nat → ClassId) (dI : Nat → Nat → Nat) (cI cL : ClassId) {ws0 : va_W} (sz : Nat) {kG kGA kyG kyGA aG aGA ayG ayGA : Nat} {G_mostSide G_side yG_mostSide yG_side : Int32} {GA_n yGA_n : Nat} {GA_f yGA_f : Nat → Int32} (hN_G : zA ws0 kG (aG, .inr (1, [.int G_mostSide, .ref aGA, .int G_side]))) (hN_GA : zA ws0 kGA (aGA, .inl (cI, GA_n, .inl GA_f))) (hN_yG : zA ws0 kyG (ayG, .inr (1, [.int yG_mostSide, .ref ayGA, .int yG_side]))) (hN_yGA : zA ws0 kyGA (ayGA, .inl (cI, yGA_n, .inl yGA_f))) (ne_G_GA : kG ≠ kGA) (ne_G_yG : kG ≠ kyG) (ne_G_yGA : kG ≠ kyGA) (ne_GA_yG : kGA ≠ kyG) (ne_GA_yGA : kGA ≠ kyGA) (r : Int32 × (Nat → Int32)) (hf : f_G_becomeHalfOf G_mostSide G_side GA_n GA_f yG_side yGA_n yGA_f = some r) : Met l y_G_becomeHalfOf w_G_becomeHalfOf rm_G_becomeHalfOf (va_Pc [.ref aG, .ref ayG] (zM dC dI cI cL ws0 sz)) (va_Qv (fun ws' : va_W => zA ws' kG (aG, .inr (1, [.int G_mostSide, .ref aGA, .int r.1])) ∧ zA ws' kGA (aGA, .inl (cI, GA_n, .inl r.2)) ∧ ∀ (j : Nat), j ∉ ([kG, kGA] : List Nat) → ws'[j]? = ws0[j]?) (zQ dC dI cI cL (va_A ws0 sz)) (va_A ws0 sz)) 0 0 (va_A ws0 sz) := by
  refine Met.ofW (cc := b_G_becomeHalfOf) (maxL := 4) (ret := none) (by decide) rfl ?_
  intro p e s m args below meth c s₁ B hml hv
  obtain ⟨rfl, hsz, hP, hK, hZ, hD0⟩ := hv
  have hx := B.exec
  have hb := B.bytes
  have hr := B.returns
  have hlocks := B.notSynchronized
  have hts : ∀ w ∈ BIG, w.before ([.ref aG, .ref ayG] : List Value).toArray s = true := fun w h => atoms_spec (ws := w_G_becomeHalfOf) B.pre w (List.mem_cons_of_mem _ h)
  have hown : s.vm.findClass "FractalMaps$Grid" = some m.cls := findClass_of_methodNamed B.named
  subst hsz
  have hD := hD0.self (sz := s.heap.size)
  generalize hAe : va_A ws0 s.heap.size = A at hD ⊢
  have hA : ∀ q : Nat, s.heap.size ≤ q → A q := fun q h => by rw [← hAe]; exact Or.inr h
  have hS : va_S A s.heap s.heap [] := va_S.rf
  have hw : ∀ (j : Nat), j ∉ ([kG, kGA] : List Nat) → ws0[j]? = ws0[j]? := fun _ _ => rfl
  have hl := lv_entry ([.ref aG, .ref ayG]) (n := 4) (Nat.le_of_ble_eq_true rfl)
  rw [lg_entry_eq]
  generalize (lg_sl ([.ref aG, .ref ayG]) ++ List.replicate (4 - (lg_sl ([.ref aG, .ref ayG])).length) Slot.unset).toArray = ls at hl ⊢
  have hl : lv_has ls 4 [(0, .ref aG), (1, .ref ayG)] := hl
  unfold f_G_becomeHalfOf at hf
  refine lv_aload_n hx hb d_G_becomeHalfOf_0 rfl (lv_at hl 0 rfl) ?_
  refine lv_aload_n hx hb d_G_becomeHalfOf_1 rfl (lv_at hl 1 rfl) ?_
  refine gf_G_24 (v := .int yG_side) hx hb hts hown hK hP hN_yG rfl d_G_becomeHalfOf_2 ?_
  refine lv_iconst (v := 2) hx hb d_G_becomeHalfOf_5 (by decide) ?_
  refine lv_idiv hx hb d_G_becomeHalfOf_6 (by decide) ?_
  refine lv_aload_n hx hb d_G_becomeHalfOf_7 rfl (lv_at hl 0 rfl) ?_
  refine gf_G_18 (v := .int G_mostSide) hx hb hts hown hK hP hN_G rfl d_G_becomeHalfOf_8 ?_
  refine mm_G_9 hx hb (hml.trans hl.1.symm) hown hts (Nat.le_of_ble_eq_true rfl) (Nat.le_of_ble_eq_true rfl) (Nat.zero_le _) (Nat.zero_le _) d_G_becomeHalfOf_11 ?_
  refine pf_G_24 (v := .int (if G_mostSide < (yG_side / (2 : Int32)) then G_mostSide else (yG_side / (2 : Int32)))) hx hb hts hown hK hP hD hS hN_G rfl rfl (Nat.le_of_ble_eq_true rfl) d_G_becomeHalfOf_14 (fun ws H locs hP hD hS hN_G hfr => ?_)
  have hN_G : zA ws kG (aG, .inr (1, [.int G_mostSide, .ref aGA, .int (if G_mostSide < (yG_side / (2 : Int32)) then G_mostSide else (yG_side / (2 : Int32)))])) := hN_G
  have hN_GA := (hfr _ ne_G_GA.symm).trans hN_GA
  have hN_yG := (hfr _ ne_G_yG.symm).trans hN_yG
  have hN_yGA := (hfr _ ne_G_yGA.symm).trans hN_yGA
  have hw := z_fr List.mem_cons_self hw hfr
  refine lv_iconst (v := 0) hx hb d_G_becomeHalfOf_17 (by decide) ?_
  refine lv_istore_n (lv' := [(2, .int (0 : Int32)), (0, .ref aG), (1, .ref ayG)]) hx hb d_G_becomeHalfOf_18 rfl hl (by decide) rfl (fun ls hl => ?_)
  have lp125 : ∀ (Qx : State → Prop) (n : Nat) (v2_123 : Int32) (GA_f_124 : Nat → Int32) (ws : va_W) (H : Heap) (locs : List Loc) (ls : Array Slot) (q : Int32 × (Nat → Int32)) (hf : f_G_becomeHalfOf_19 (if G_mostSide < (yG_side / (2 : Int32)) then G_mostSide else (yG_side / (2 : Int32))) GA_n yG_side yGA_n yGA_f n v2_123 GA_f_124 = some q) (hl : lv_has ls 4 [(0, .ref aG), (1, .ref ayG), (2, .int v2_123)]) (hP : va_P (dC, dI) classes ws H) (hD : va_D A ws) (hS : va_S A s.heap H locs) (hN_G : zA ws kG (aG, .inr (1, [.int G_mostSide, .ref aGA, .int (if G_mostSide < (yG_side / (2 : Int32)) then G_mostSide else (yG_side / (2 : Int32)))]))) (hN_GA : zA ws kGA (aGA, .inl (cI, GA_n, .inl GA_f_124))) (hN_yG : zA ws kyG (ayG, .inr (1, [.int yG_mostSide, .ref ayGA, .int yG_side]))) (hN_yGA : zA ws kyGA (ayGA, .inl (cI, yGA_n, .inl yGA_f))) (hw : ∀ (j : Nat), j ∉ ([kG, kGA] : List Nat) → ws[j]? = ws0[j]?) (kt0 : ∀ (ws : va_W) (H : Heap) (locs : List Loc) (ls : Array Slot), lv_has ls 4 [(0, .ref aG), (1, .ref ayG), (2, .int q.1)] → (va_P (dC, dI) classes ws H) → (va_D A ws) → (va_S A s.heap H locs) → (zA ws kG (aG, .inr (1, [.int G_mostSide, .ref aGA, .int (if G_mostSide < (yG_side / (2 : Int32)) then G_mostSide else (yG_side / (2 : Int32)))]))) → (zA ws kGA (aGA, .inl (cI, GA_n, .inl q.2))) → (zA ws kyG (ayG, .inr (1, [.int yG_mostSide, .ref ayGA, .int yG_side]))) → (zA ws kyGA (ayGA, .inl (cI, yGA_n, .inl yGA_f))) → (∀ (j : Nat), j ∉ ([kG, kGA] : List Nat) → ws[j]? = ws0[j]?) → W p l e (headSpec w_G_becomeHalfOf rm_G_becomeHalfOf).room s m ([.ref aG, .ref ayG] : List Value).toArray below meth c H locs 0 0 Qx (F0 m 70 ls [])), W p l e (headSpec w_G_becomeHalfOf rm_G_becomeHalfOf).room s m ([.ref aG, .ref ayG] : List Value).toArray below meth c H locs 0 0 Qx (F0 m 19 ls []) := by
    intro Qx n
    induction n with
    | zero => intro v2_123 GA_f_124 ws H locs ls q hf; cases hf
    | succ n ih =>
      intro v2_123 GA_f_124 ws H locs ls q hf hl hP hD hS hN_G hN_GA hN_yG hN_yGA hw kt0
      rw [f_G_becomeHalfOf_19] at hf
      refine lv_iload_n hx hb d_G_becomeHalfOf_19 rfl (lv_at hl 2 rfl) ?_
      refine lv_aload_n hx hb d_G_becomeHalfOf_20 rfl (lv_at hl 0 rfl) ?_
      refine gf_G_24 (v := .int (if G_mostSide < (yG_side / (2 : Int32)) then G_mostSide else (yG_side / (2 : Int32)))) hx hb hts hown hK hP hN_G rfl d_G_becomeHalfOf_21 ?_
      refine lv_icmp_ge (tgt := 70) hx hb d_G_becomeHalfOf_24 (by decide) (fun hc => ?_) (fun hc => ?_)
      · have hf := z_t hc hf
        obtain rfl := Option.some.inj hf
        exact kt0 _ _ _ ls (lv_sub hl [0, 1, 2] rfl) hP hD hS hN_G hN_GA hN_yG hN_yGA hw
      · have hf := z_f hc hf
        refine lv_iconst (v := 0) hx hb d_G_becomeHalfOf_27 (by decide) ?_
        refine lv_istore_n (lv' := [(3, .int (0 : Int32)), (0, .ref aG), (1, .ref ayG), (2, .int v2_123)]) hx hb d_G_becomeHalfOf_28 rfl hl (by decide) rfl (fun ls hl => ?_)
        have lp129 : ∀ (Qx : State → Prop) (n : Nat) (v3_127 : Int32) (GA_f_128 : Nat → Int32) (ws : va_W) (H : Heap) (locs : List Loc) (ls : Array Slot) (q : Int32 × (Nat → Int32)) (hf : f_G_becomeHalfOf_29 v2_123 (if G_mostSide < (yG_side / (2 : Int32)) then G_mostSide else (yG_side / (2 : Int32))) GA_n yG_side yGA_n yGA_f n v3_127 GA_f_128 = some q) (hl : lv_has ls 4 [(0, .ref aG), (1, .ref ayG), (2, .int v2_123), (3, .int v3_127)]) (hP : va_P (dC, dI) classes ws H) (hD : va_D A ws) (hS : va_S A s.heap H locs) (hN_G : zA ws kG (aG, .inr (1, [.int G_mostSide, .ref aGA, .int (if G_mostSide < (yG_side / (2 : Int32)) then G_mostSide else (yG_side / (2 : Int32)))]))) (hN_GA : zA ws kGA (aGA, .inl (cI, GA_n, .inl GA_f_128))) (hN_yG : zA ws kyG (ayG, .inr (1, [.int yG_mostSide, .ref ayGA, .int yG_side]))) (hN_yGA : zA ws kyGA (ayGA, .inl (cI, yGA_n, .inl yGA_f))) (hw : ∀ (j : Nat), j ∉ ([kG, kGA] : List Nat) → ws[j]? = ws0[j]?) (kt0 : ∀ (ws : va_W) (H : Heap) (locs : List Loc) (ls : Array Slot), lv_has ls 4 [(0, .ref aG), (1, .ref ayG), (2, .int v2_123), (3, .int q.1)] → (va_P (dC, dI) classes ws H) → (va_D A ws) → (va_S A s.heap H locs) → (zA ws kG (aG, .inr (1, [.int G_mostSide, .ref aGA, .int (if G_mostSide < (yG_side / (2 : Int32)) then G_mostSide else (yG_side / (2 : Int32)))]))) → (zA ws kGA (aGA, .inl (cI, GA_n, .inl q.2))) → (zA ws kyG (ayG, .inr (1, [.int yG_mostSide, .ref ayGA, .int yG_side]))) → (zA ws kyGA (ayGA, .inl (cI, yGA_n, .inl yGA_f))) → (∀ (j : Nat), j ∉ ([kG, kGA] : List Nat) → ws[j]? = ws0[j]?) → W p l e (headSpec w_G_becomeHalfOf rm_G_becomeHalfOf).room s m ([.ref aG, .ref ayG] : List Value).toArray below meth c H locs 0 0 Qx (F0 m 64 ls [])), W p l e (headSpec w_G_becomeHalfOf rm_G_becomeHalfOf).room s m ([.ref aG, .ref ayG] : List Value).toArray below meth c H locs 0 0 Qx (F0 m 29 ls []) := by
          intro Qx n
          induction n with
          | zero => intro v3_127 GA_f_128 ws H locs ls q hf; cases hf
          | succ n ih =>
            intro v3_127 GA_f_128 ws H locs ls q hf hl hP hD hS hN_G hN_GA hN_yG hN_yGA hw kt0
            rw [f_G_becomeHalfOf_29] at hf
            refine lv_iload_n hx hb d_G_becomeHalfOf_29 rfl (lv_at hl 3 rfl) ?_
            refine lv_aload_n hx hb d_G_becomeHalfOf_30 rfl (lv_at hl 0 rfl) ?_
            refine gf_G_24 (v := .int (if G_mostSide < (yG_side / (2 : Int32)) then G_mostSide else (yG_side / (2 : Int32)))) hx hb hts hown hK hP hN_G rfl d_G_becomeHalfOf_31 ?_
            refine lv_icmp_ge (tgt := 64) hx hb d_G_becomeHalfOf_34 (by decide) (fun hc => ?_) (fun hc => ?_)
            · have hf := z_t hc hf
              obtain rfl := Option.some.inj hf
              exact kt0 _ _ _ ls (lv_sub hl [0, 1, 2, 3] rfl) hP hD hS hN_G hN_GA hN_yG hN_yGA hw
            · have hf := z_f hc hf
              refine lv_aload_n hx hb d_G_becomeHalfOf_37 rfl (lv_at hl 0 rfl) ?_
              refine lv_iload_n hx hb d_G_becomeHalfOf_38 rfl (lv_at hl 3 rfl) ?_
              refine lv_iload_n hx hb d_G_becomeHalfOf_39 rfl (lv_at hl 2 rfl) ?_
              refine lv_aload_n hx hb d_G_becomeHalfOf_40 rfl (lv_at hl 1 rfl) ?_
              refine lv_iconst (v := 2) hx hb d_G_becomeHalfOf_41 (by decide) ?_
              refine lv_iload_n hx hb d_G_becomeHalfOf_42 rfl (lv_at hl 3 rfl) ?_
              refine lv_imul hx hb d_G_becomeHalfOf_43 ?_
              refine lv_iconst (v := 2) hx hb d_G_becomeHalfOf_44 (by decide) ?_
              refine lv_iload_n hx hb d_G_becomeHalfOf_45 rfl (lv_at hl 2 rfl) ?_
              refine lv_imul hx hb d_G_becomeHalfOf_46 ?_
              refine lv_iconst (v := 2) hx hb d_G_becomeHalfOf_47 (by decide) ?_
              obtain ⟨q130, hc, hf⟩ := z_b hf
              refine vp_callSi (z_cr (va_runV (As := [.int ((2 : Int32) * v3_127), .int ((2 : Int32) * v2_123), .int (2 : Int32)]) (rest := [.int v2_123, .int v3_127, .ref aG]) ⟨hx, hb, hml, hown, hts⟩ (c_G_sum l dC dI cI cL ((2 : Int32) * v3_127) ((2 : Int32) * v2_123) (2 : Int32) hN_yG hN_yGA q130 hc) (cw_G_41 hts ⟨Nat.le_of_ble_eq_true rfl, Nat.le_of_ble_eq_true rfl⟩) ⟨zbR, va_recv hK hP (ci := 1) rfl hN_yG, (zpR hP hK hZ)⟩ rfl rfl hl.1 rfl (lv_room (Nat.le_of_ble_eq_true rfl)) d_G_becomeHalfOf_48 ⟨Nat.zero_le _, Nat.zero_le _⟩)) (fun r131 hv => ?_)
              have hv := hv.symm
              subst hv
              refine lv_iconst (v := 2) hx hb d_G_becomeHalfOf_51 (by decide) ?_
              refine lv_iadd hx hb d_G_becomeHalfOf_52 ?_
              refine lv_iconst (v := 4) hx hb d_G_becomeHalfOf_53 (by decide) ?_
              refine lv_idiv hx hb d_G_becomeHalfOf_54 (by decide) ?_
              obtain ⟨q132, hc, hf⟩ := z_b hf
              have hFc := z_free hD hS hA
              refine va_callv (va_runV (As := [.int v3_127, .int v2_123, .int ((q130 + (2 : Int32)) / (4 : Int32))]) (rest := []) ⟨hx, hb, hml, hown, hts⟩ (c_G_set l dC dI cI cL _ v3_127 v2_123 ((q130 + (2 : Int32)) / (4 : Int32)) hN_G hN_GA ne_G_GA q132 hc) (cw_G_45 hts ⟨Nat.le_of_ble_eq_true rfl, Nat.le_of_ble_eq_true rfl⟩) ⟨zbM, va_recv hK hP (ci := 1) rfl hN_G, (zpM hP hK hZ hD)⟩ rfl rfl hl.1 rfl (lv_room (Nat.le_of_ble_eq_true rfl)) d_G_becomeHalfOf_55 ⟨Nat.zero_le _, Nat.zero_le _⟩) hS (fun q _ h => hFc q h) hFc (fun ws t H locs ht hvm hu hB hz1 hk1 hS => ?_)
              obtain ⟨hN_GA, hfr⟩ := hu
              obtain ⟨hP, -, hD1⟩ := hB
              rw [ht] at hP
              have hD := hD1.weaken (fun _ _ _ h => hFc _ h)
              have hN_GA : zA ws kGA (aGA, .inl (cI, GA_n, .inl q132)) := hN_GA
              have hN_G := (hfr _ (z_nc ne_G_GA z_nn)).trans hN_G
              have hN_yG := (hfr _ (z_nc ne_GA_yG.symm z_nn)).trans hN_yG
              have hN_yGA := (hfr _ (z_nc ne_GA_yGA.symm z_nn)).trans hN_yGA
              have hw := z_frC (z_sc (List.mem_cons_of_mem _ List.mem_cons_self) z_sn) hw hfr
              refine lv_iinc (v := (v3_127 + 1)) (lv' := [(3, .int (v3_127 + 1)), (0, .ref aG), (1, .ref ayG), (2, .int v2_123)]) hx hb d_G_becomeHalfOf_58 hl (k := 3) rfl rfl (by decide) rfl (fun ls hl => ?_)
              refine lv_goto (tgt := 29) hx hb d_G_becomeHalfOf_61 (by decide) ?_
              exact ih (v3_127 + 1) q132 _ _ _ ls _ hf (lv_sub hl [1, 2, 3, 0] rfl) hP hD hS hN_G hN_GA hN_yG hN_yGA hw kt0
        obtain ⟨q126, hc, hf⟩ := z_b hf
        refine lp129 _ FU (0 : Int32) GA_f_124 _ _ _ ls q126 hc (lv_sub hl [1, 2, 3, 0] rfl) hP hD hS hN_G hN_GA hN_yG hN_yGA hw (fun ws H locs ls hl hP hD hS hN_G hN_GA hN_yG hN_yGA hw => ?_)
        refine lv_iinc (v := (v2_123 + 1)) (lv' := [(2, .int (v2_123 + 1)), (0, .ref aG), (1, .ref ayG), (3, .int q126.1)]) hx hb d_G_becomeHalfOf_64 hl (k := 2) rfl rfl (by decide) rfl (fun ls hl => ?_)
        refine lv_goto (tgt := 19) hx hb d_G_becomeHalfOf_67 (by decide) ?_
        exact ih (v2_123 + 1) q126.2 _ _ _ ls _ hf (lv_sub hl [1, 2, 0] rfl) hP hD hS hN_G hN_GA hN_yG hN_yGA hw kt0
  obtain ⟨q122, hc, hf⟩ := z_b hf
  refine lp125 _ FU (0 : Int32) GA_f _ _ _ ls q122 hc (lv_sub hl [1, 2, 0] rfl) hP hD hS hN_G hN_GA hN_yG hN_yGA hw (fun ws H locs ls hl hP hD hS hN_G hN_GA hN_yG hN_yGA hw => ?_)
  obtain rfl := Option.some.inj hf
  exact W.vret hx hb hr (fun t ht hW => ⟨⟨ws, rfl, ⟨hN_G, hN_GA, hw⟩, by rw [ht]; exact hP, va_K.moved hW.alike hK, hD⟩, hS.F ht⟩) hS.2.2 d_G_becomeHalfOf_70
def f_V_sourceDown (x1 : Int32) (x2 : Int32) (x3 : Int32) (x4 : Int32) : Option (Int32) := if (x2 &&& (3 : Int32)) = 0 then (if (x2 &&& (3 : Int32)) = 0 then (some x4) else (if (x2 &&& (3 : Int32)) = (3 : Int32) then (some x4) else (some ((x1 - (1 : Int32)) - x4)))) else (if (x2 &&& (3 : Int32)) = (2 : Int32) then (if (x2 &&& (3 : Int32)) = 0 then (some x4) else (if (x2 &&& (3 : Int32)) = (3 : Int32) then (some x4) else (some ((x1 - (1 : Int32)) - x4)))) else (if (x2 &&& (3 : Int32)) = 0 then (some x3) else (if (x2 &&& (3 : Int32)) = (3 : Int32) then (some x3) else (some ((x1 - (1 : Int32)) - x3)))))
set_option maxHeartbeats 4000000 in
set_option maxRecDepth 100000 in
theorem c_V_sourceDown (l : Launch) (x1 : Int32) (x2 : Int32) (x3 : Int32) (x4 : Int32) (r : Int32) (hf : f_V_sourceDown x1 x2 x3 x4 = some r) : Met l y_V_sourceDown w_V_sourceDown rm_V_sourceDown (va_Pc [.int x1, .int x2, .int x3, .int x4] (fun _ => True)) (vp_Si (fun v => v = r)) 0 0 (fun _ => False) := by
  refine Met.ofW (cc := b_V_sourceDown) (maxL := 7) (ret := some .int) (by decide) rfl ?_
  intro p e s m args below meth c s₁ B hml hv
  obtain ⟨rfl, -⟩ := hv
  have hx := B.exec
  have hb := B.bytes
  have hr := B.returns
  have hlocks := B.notSynchronized
  have hts : ∀ w ∈ BIG, w.before ([.int x1, .int x2, .int x3, .int x4] : List Value).toArray s = true := fun w h => atoms_spec (ws := w_V_sourceDown) B.pre w (List.mem_cons_of_mem _ h)
  have hown : s.vm.findClass "FractalMaps$View" = some m.cls := findClass_of_methodNamed B.named
  have hl := lv_entry ([.int x1, .int x2, .int x3, .int x4]) (n := 7) (Nat.le_of_ble_eq_true rfl)
  rw [lg_entry_eq]
  generalize (lg_sl ([.int x1, .int x2, .int x3, .int x4]) ++ List.replicate (7 - (lg_sl ([.int x1, .int x2, .int x3, .int x4])).length) Slot.unset).toArray = ls at hl ⊢
  have hl : lv_has ls 7 [(0, .int x1), (1, .int x2), (2, .int x3), (3, .int x4)] := hl
  unfold f_V_sourceDown at hf
  refine lv_iload_n hx hb d_V_sourceDown_0 rfl (lv_at hl 0 rfl) ?_
  refine lv_iconst (v := 1) hx hb d_V_sourceDown_1 (by decide) ?_
  refine lv_isub hx hb d_V_sourceDown_2 ?_
  refine lv_istore (lv' := [(4, .int (x1 - (1 : Int32))), (0, .int x1), (1, .int x2), (2, .int x3), (3, .int x4)]) hx hb d_V_sourceDown_3 hl (by decide) rfl (fun ls hl => ?_)
  refine lv_iload_n hx hb d_V_sourceDown_5 rfl (lv_at hl 2 rfl) ?_
  refine lv_iconst (v := 3) hx hb d_V_sourceDown_6 (by decide) ?_
  refine lv_iand hx hb d_V_sourceDown_7 ?_
  refine lv_istore (lv' := [(5, .int (x2 &&& (3 : Int32))), (4, .int (x1 - (1 : Int32))), (0, .int x1), (1, .int x2), (2, .int x3), (3, .int x4)]) hx hb d_V_sourceDown_8 hl (by decide) rfl (fun ls hl => ?_)
  refine lv_iload hx hb d_V_sourceDown_10 (lv_at hl 0 rfl) ?_
  refine lv_if_eq (tgt := 21) hx hb d_V_sourceDown_12 (by decide) (fun hc => ?_) (fun hc => ?_)
  · have hf := z_t hc hf
    refine lv_iload_n hx hb d_V_sourceDown_21 rfl (lv_at hl 5 rfl) ?_
    refine lv_goto (tgt := 26) hx hb d_V_sourceDown_22 (by decide) ?_
    refine lv_istore (lv' := [(6, .int x4), (5, .int (x2 &&& (3 : Int32))), (4, .int (x1 - (1 : Int32))), (0, .int x1), (1, .int x2), (2, .int x3), (3, .int x4)]) hx hb d_V_sourceDown_26 hl (by decide) rfl (fun ls hl => ?_)
    refine lv_iload hx hb d_V_sourceDown_28 (lv_at hl 1 rfl) ?_
    refine lv_if_eq (tgt := 39) hx hb d_V_sourceDown_30 (by decide) (fun hc => ?_) (fun hc => ?_)
    · have hf := z_t hc hf
      refine lv_iload hx hb d_V_sourceDown_39 (lv_at hl 0 rfl) ?_
      refine lv_goto (tgt := 49) hx hb d_V_sourceDown_41 (by decide) ?_
      obtain rfl := Option.some.inj hf
      exact W.iret hx hb hr (fun t ht hW => ⟨_, rfl, rfl, ht⟩) (fun q h => by cases h) d_V_sourceDown_49
    · have hf := z_f hc hf
      refine lv_iload hx hb d_V_sourceDown_33 (lv_at hl 1 rfl) ?_
      refine lv_iconst (v := 3) hx hb d_V_sourceDown_35 (by decide) ?_
      refine lv_icmp_ne (tgt := 44) hx hb d_V_sourceDown_36 (by decide) (fun hc => ?_) (fun hc => ?_)
      · have hf := z_f hc hf
        refine lv_iload hx hb d_V_sourceDown_44 (lv_at hl 2 rfl) ?_
        refine lv_iload hx hb d_V_sourceDown_46 (lv_at hl 0 rfl) ?_
        refine lv_isub hx hb d_V_sourceDown_48 ?_
        obtain rfl := Option.some.inj hf
        exact W.iret hx hb hr (fun t ht hW => ⟨_, rfl, rfl, ht⟩) (fun q h => by cases h) d_V_sourceDown_49
      · have hf := z_t hc hf
        refine lv_iload hx hb d_V_sourceDown_39 (lv_at hl 0 rfl) ?_
        refine lv_goto (tgt := 49) hx hb d_V_sourceDown_41 (by decide) ?_
        obtain rfl := Option.some.inj hf
        exact W.iret hx hb hr (fun t ht hW => ⟨_, rfl, rfl, ht⟩) (fun q h => by cases h) d_V_sourceDown_49
  · have hf := z_f hc hf
    refine lv_iload hx hb d_V_sourceDown_15 (lv_at hl 0 rfl) ?_
    refine lv_iconst (v := 2) hx hb d_V_sourceDown_17 (by decide) ?_
    refine lv_icmp_ne (tgt := 25) hx hb d_V_sourceDown_18 (by decide) (fun hc => ?_) (fun hc => ?_)
    · have hf := z_f hc hf
      refine lv_iload_n hx hb d_V_sourceDown_25 rfl (lv_at hl 4 rfl) ?_
      refine lv_istore (lv' := [(6, .int x3), (5, .int (x2 &&& (3 : Int32))), (4, .int (x1 - (1 : Int32))), (0, .int x1), (1, .int x2), (2, .int x3), (3, .int x4)]) hx hb d_V_sourceDown_26 hl (by decide) rfl (fun ls hl => ?_)
      refine lv_iload hx hb d_V_sourceDown_28 (lv_at hl 1 rfl) ?_
      refine lv_if_eq (tgt := 39) hx hb d_V_sourceDown_30 (by decide) (fun hc => ?_) (fun hc => ?_)
      · have hf := z_t hc hf
        refine lv_iload hx hb d_V_sourceDown_39 (lv_at hl 0 rfl) ?_
        refine lv_goto (tgt := 49) hx hb d_V_sourceDown_41 (by decide) ?_
        obtain rfl := Option.some.inj hf
        exact W.iret hx hb hr (fun t ht hW => ⟨_, rfl, rfl, ht⟩) (fun q h => by cases h) d_V_sourceDown_49
      · have hf := z_f hc hf
        refine lv_iload hx hb d_V_sourceDown_33 (lv_at hl 1 rfl) ?_
        refine lv_iconst (v := 3) hx hb d_V_sourceDown_35 (by decide) ?_
        refine lv_icmp_ne (tgt := 44) hx hb d_V_sourceDown_36 (by decide) (fun hc => ?_) (fun hc => ?_)
        · have hf := z_f hc hf
          refine lv_iload hx hb d_V_sourceDown_44 (lv_at hl 2 rfl) ?_
          refine lv_iload hx hb d_V_sourceDown_46 (lv_at hl 0 rfl) ?_
          refine lv_isub hx hb d_V_sourceDown_48 ?_
          obtain rfl := Option.some.inj hf
          exact W.iret hx hb hr (fun t ht hW => ⟨_, rfl, rfl, ht⟩) (fun q h => by cases h) d_V_sourceDown_49
        · have hf := z_t hc hf
          refine lv_iload hx hb d_V_sourceDown_39 (lv_at hl 0 rfl) ?_
          refine lv_goto (tgt := 49) hx hb d_V_sourceDown_41 (by decide) ?_
          obtain rfl := Option.some.inj hf
          exact W.iret hx hb hr (fun t ht hW => ⟨_, rfl, rfl, ht⟩) (fun q h => by cases h) d_V_sourceDown_49
    · have hf := z_t hc hf
      refine lv_iload_n hx hb d_V_sourceDown_21 rfl (lv_at hl 5 rfl) ?_
      refine lv_goto (tgt := 26) hx hb d_V_sourceDown_22 (by decide) ?_
      refine lv_istore (lv' := [(6, .int x4), (5, .int (x2 &&& (3 : Int32))), (4, .int (x1 - (1 : Int32))), (0, .int x1), (1, .int x2), (2, .int x3), (3, .int x4)]) hx hb d_V_sourceDown_26 hl (by decide) rfl (fun ls hl => ?_)
      refine lv_iload hx hb d_V_sourceDown_28 (lv_at hl 1 rfl) ?_
      refine lv_if_eq (tgt := 39) hx hb d_V_sourceDown_30 (by decide) (fun hc => ?_) (fun hc => ?_)
      · have hf := z_t hc hf
        refine lv_iload hx hb d_V_sourceDown_39 (lv_at hl 0 rfl) ?_
        refine lv_goto (tgt := 49) hx hb d_V_sourceDown_41 (by decide) ?_
        obtain rfl := Option.some.inj hf
        exact W.iret hx hb hr (fun t ht hW => ⟨_, rfl, rfl, ht⟩) (fun q h => by cases h) d_V_sourceDown_49
      · have hf := z_f hc hf
        refine lv_iload hx hb d_V_sourceDown_33 (lv_at hl 1 rfl) ?_
        refine lv_iconst (v := 3) hx hb d_V_sourceDown_35 (by decide) ?_
        refine lv_icmp_ne (tgt := 44) hx hb d_V_sourceDown_36 (by decide) (fun hc => ?_) (fun hc => ?_)
        · have hf := z_f hc hf
          refine lv_iload hx hb d_V_sourceDown_44 (lv_at hl 2 rfl) ?_
          refine lv_iload hx hb d_V_sourceDown_46 (lv_at hl 0 rfl) ?_
          refine lv_isub hx hb d_V_sourceDown_48 ?_
          obtain rfl := Option.some.inj hf
          exact W.iret hx hb hr (fun t ht hW => ⟨_, rfl, rfl, ht⟩) (fun q h => by cases h) d_V_sourceDown_49
        · have hf := z_t hc hf
          refine lv_iload hx hb d_V_sourceDown_39 (lv_at hl 0 rfl) ?_
          refine lv_goto (tgt := 49) hx hb d_V_sourceDown_41 (by decide) ?_
          obtain rfl := Option.some.inj hf
          exact W.iret hx hb hr (fun t ht hW => ⟨_, rfl, rfl, ht⟩) (fun q h => by cases h) d_V_sourceDown_49
