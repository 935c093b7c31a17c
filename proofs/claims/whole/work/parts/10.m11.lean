def f_F_readSquare (rec : Int32 → Int32 → Int32 → Int32 → Int32 → Int32 → Int32 → Nat → (Nat → Int32) → Int32 → Int32 → Int32 → Int32 → Int32 → Int32 → Int32 → Nat → (Nat → Int32) → Option (Int32 × Int32 × (Nat → Int32) × Int32 × Int32 × Int32 × Int32 × Int32 × Int32)) (x1 : Int32) (x2 : Int32) (x3 : Int32) (x4 : Int32) (x5 : Int32) (O_side : Int32) (K_count : Int32) (KA_n : Nat) (KA_f : Nat → Int32) (T_domain : Int32) (T_turn : Int32) (T_contrast : Int32) (T_offset : Int32) (T_error : Int32) (I_filled : Int32) (I_taken : Int32) (IA_n : Nat) (IA_f : Nat → Int32) : Option (Int32 × Int32 × (Nat → Int32) × Int32 × Int32 × Int32 × Int32 × Int32 × Int32) := if x3 ≤ x4 then (if (0 : Int32) = ((-1) : Int32) then (some ((3 : Int32), K_count, KA_f, T_domain, T_turn, T_contrast, T_offset, T_error, I_taken)) else (if (0 : Int32) = (1 : Int32) then ((rec x1 x2 (x3 / (2 : Int32)) x4 x5 O_side K_count KA_n KA_f T_domain T_turn T_contrast T_offset T_error I_filled I_taken IA_n IA_f).bind (fun q490 => some (q490.1, q490.2.1, q490.2.2.1, q490.2.2.2.1, q490.2.2.2.2.1, q490.2.2.2.2.2.1, q490.2.2.2.2.2.2.1, q490.2.2.2.2.2.2.2.1, q490.2.2.2.2.2.2.2.2))) else ((f_F_readFit x3 O_side T_domain T_turn T_contrast T_offset T_error I_filled I_taken IA_n IA_f).bind (fun q488 => if q488.1 = ((-1) : Int32) then (if x5 = 0 then (some (q488.1, K_count, KA_f, q488.2.1, q488.2.2.1, q488.2.2.2.1, q488.2.2.2.2.1, q488.2.2.2.2.2.1, q488.2.2.2.2.2.2)) else ((f_K_add x1 x2 x3 K_count KA_n KA_f q488.2.1 q488.2.2.1 q488.2.2.2.1 q488.2.2.2.2.1 q488.2.2.2.2.2.1).bind (fun q489 => some (q488.1, q489.1, q489.2, q488.2.1, q488.2.2.1, q488.2.2.2.1, q488.2.2.2.2.1, q488.2.2.2.2.2.1, q488.2.2.2.2.2.2)))) else (some (q488.1, K_count, KA_f, q488.2.1, q488.2.2.1, q488.2.2.2.1, q488.2.2.2.2.1, q488.2.2.2.2.2.1, q488.2.2.2.2.2.2)))))) else ((f_B_take (1 : Int32) I_filled I_taken IA_n IA_f).bind (fun q491 => if q491.1 = ((-1) : Int32) then (some ((3 : Int32), K_count, KA_f, T_domain, T_turn, T_contrast, T_offset, T_error, q491.2)) else (if q491.1 = (1 : Int32) then ((rec x1 x2 (x3 / (2 : Int32)) x4 x5 O_side K_count KA_n KA_f T_domain T_turn T_contrast T_offset T_error I_filled q491.2 IA_n IA_f).bind (fun q494 => some (q494.1, q494.2.1, q494.2.2.1, q494.2.2.2.1, q494.2.2.2.2.1, q494.2.2.2.2.2.1, q494.2.2.2.2.2.2.1, q494.2.2.2.2.2.2.2.1, q494.2.2.2.2.2.2.2.2))) else ((f_F_readFit x3 O_side T_domain T_turn T_contrast T_offset T_error I_filled q491.2 IA_n IA_f).bind (fun q492 => if q492.1 = ((-1) : Int32) then (if x5 = 0 then (some (q492.1, K_count, KA_f, q492.2.1, q492.2.2.1, q492.2.2.2.1, q492.2.2.2.2.1, q492.2.2.2.2.2.1, q492.2.2.2.2.2.2)) else ((f_K_add x1 x2 x3 K_count KA_n KA_f q492.2.1 q492.2.2.1 q492.2.2.2.1 q492.2.2.2.2.1 q492.2.2.2.2.2.1).bind (fun q493 => some (q492.1, q493.1, q493.2, q492.2.1, q492.2.2.1, q492.2.2.2.1, q492.2.2.2.2.1, q492.2.2.2.2.2.1, q492.2.2.2.2.2.2)))) else (some (q492.1, K_count, KA_f, q492.2.1, q492.2.2.1, q492.2.2.2.1, q492.2.2.2.2.1, q492.2.2.2.2.2.1, q492.2.2.2.2.2.2)))))))
def f_F_readQuarters_13 (rec : Int32 → Int32 → Int32 → Int32 → Int32 → Int32 → Int32 → Nat → (Nat → Int32) → Int32 → Int32 → Int32 → Int32 → Int32 → Int32 → Int32 → Nat → (Nat → Int32) → Option (Int32 × Int32 × (Nat → Int32) × Int32 × Int32 × Int32 × Int32 × Int32 × Int32)) (p1 : Int32) (p2 : Int32) (p3 : Int32) (p4 : Int32) (p5 : Int32) (O_side : Int32) (KA_n : Nat) (I_filled : Int32) (IA_n : Nat) (IA_f : Nat → Int32) : Nat → Int32 → Int32 → Int32 → (Nat → Int32) → Int32 → Int32 → Int32 → Int32 → Int32 → Int32 → Option (Int32 × Int32 × Int32 × (Nat → Int32) × Int32 × Int32 × Int32 × Int32 × Int32 × Int32)
  | 0, _, _, _, _, _, _, _, _, _, _ => none
  | n + 1, v6, v7, K_count, KA_f, T_domain, T_turn, T_contrast, T_offset, T_error, I_taken => if (4 : Int32) ≤ v7 then (some (v6, v7, K_count, KA_f, T_domain, T_turn, T_contrast, T_offset, T_error, I_taken)) else (if v6 = ((-1) : Int32) then ((f_F_acrossOf v7).bind (fun q495 => (f_F_downOf v7).bind (fun q497 => (f_F_readSquare rec (p1 + (q495 * p3)) (p2 + (q497 * p3)) p3 p4 p5 O_side K_count KA_n KA_f T_domain T_turn T_contrast T_offset T_error I_filled I_taken IA_n IA_f).bind (fun q499 => f_F_readQuarters_13 rec p1 p2 p3 p4 p5 O_side KA_n I_filled IA_n IA_f n q499.1 (v7 + 1) q499.2.1 q499.2.2.1 q499.2.2.2.1 q499.2.2.2.2.1 q499.2.2.2.2.2.1 q499.2.2.2.2.2.2.1 q499.2.2.2.2.2.2.2.1 q499.2.2.2.2.2.2.2.2)))) else (some (v6, v7, K_count, KA_f, T_domain, T_turn, T_contrast, T_offset, T_error, I_taken)))
def f_F_readQuarters : Nat → Int32 → Int32 → Int32 → Int32 → Int32 → Int32 → Int32 → Nat → (Nat → Int32) → Int32 → Int32 → Int32 → Int32 → Int32 → Int32 → Int32 → Nat → (Nat → Int32) → Option (Int32 × Int32 × (Nat → Int32) × Int32 × Int32 × Int32 × Int32 × Int32 × Int32)
  | 0, _, _, _, _, _, _, _, _, _, _, _, _, _, _, _, _, _, _ => none
  | d + 1, x1, x2, x3, x4, x5, O_side, K_count, KA_n, KA_f, T_domain, T_turn, T_contrast, T_offset, T_error, I_filled, I_taken, IA_n, IA_f => if (2 : Int32) ≤ x3 then ((f_F_readQuarters_13 (f_F_readQuarters d) x1 x2 x3 x4 x5 O_side KA_n I_filled IA_n IA_f FU ((-1) : Int32) (0 : Int32) K_count KA_f T_domain T_turn T_contrast T_offset T_error I_taken).bind (fun q500 => some (q500.1, q500.2.2.1, q500.2.2.2.1, q500.2.2.2.2.1, q500.2.2.2.2.2.1, q500.2.2.2.2.2.2.1, q500.2.2.2.2.2.2.2.1, q500.2.2.2.2.2.2.2.2.1, q500.2.2.2.2.2.2.2.2.2))) else (some ((0 : Int32), K_count, KA_f, T_domain, T_turn, T_contrast, T_offset, T_error, I_taken))
def CA_F_readQuarters (l : Launch) (d : Nat) : Prop := ∀ (dC : Nat → ClassId) (dI : Nat → Nat → Nat) (cI cL : ClassId) {ws0 : va_W} (sz : Nat) {aO aP aN aH aV aS aK aT aC aI aKA aIA : Nat} {O_side K_count T_domain T_turn T_contrast T_offset T_error I_filled I_taken : Int32} {KA_n IA_n : Nat} {KA_f IA_f : Nat → Int32} (x1 : Int32) (x2 : Int32) (x3 : Int32) (x4 : Int32) (x5 : Int32) (hN_O : zA ws0 0 (aO, .inr (0, [.int O_side, .ref aP, .ref aN, .ref aH, .ref aV, .ref aS, .ref aK, .ref aT, .ref aC, .ref aI]))) (hN_K : zA ws0 14 (aK, .inr (5, [.ref aKA, .int K_count]))) (hN_KA : zA ws0 15 (aKA, .inl (cI, KA_n, .inl KA_f))) (hN_T : zA ws0 16 (aT, .inr (4, [.int T_domain, .int T_turn, .int T_contrast, .int T_offset, .int T_error]))) (hN_I : zA ws0 19 (aI, .inr (6, [.ref aIA, .int I_filled, .int I_taken]))) (hN_IA : zA ws0 20 (aIA, .inl (cI, IA_n, .inl IA_f))) (r : Int32 × Int32 × (Nat → Int32) × Int32 × Int32 × Int32 × Int32 × Int32 × Int32) (hf : f_F_readQuarters d x1 x2 x3 x4 x5 O_side K_count KA_n KA_f T_domain T_turn T_contrast T_offset T_error I_filled I_taken IA_n IA_f = some r), Met l y_F_readQuarters w_F_readQuarters (rm_F_readQuarters d) (va_Pc [.ref aO, .int x1, .int x2, .int x3, .int x4, .int x5] (zM dC dI cI cL ws0 sz)) (va_Qi (fun (v : Int32) (ws' : va_W) => v = r.1 ∧ zA ws' 14 (aK, .inr (5, [.ref aKA, .int r.2.1])) ∧ zA ws' 15 (aKA, .inl (cI, KA_n, .inl r.2.2.1)) ∧ zA ws' 16 (aT, .inr (4, [.int r.2.2.2.1, .int r.2.2.2.2.1, .int r.2.2.2.2.2.1, .int r.2.2.2.2.2.2.1, .int r.2.2.2.2.2.2.2.1])) ∧ zA ws' 19 (aI, .inr (6, [.ref aIA, .int I_filled, .int r.2.2.2.2.2.2.2.2])) ∧ ∀ (j : Nat), j ∉ ([14, 15, 16, 19] : List Nat) → ws'[j]? = ws0[j]?) (zQ dC dI cI cL (va_A ws0 sz)) (va_A ws0 sz)) 0 0 (va_A ws0 sz)
set_option maxHeartbeats 4000000 in
set_option maxRecDepth 100000 in
theorem c_F_readSquare (l : Launch) (d : Nat) (hrec : CA_F_readQuarters l d) (dC : Nat → ClassId) (dI : Nat → Nat → Nat) (cI cL : ClassId) {ws0 : va_W} (sz : Nat) {aO aP aN aH aV aS aK aT aC aI aKA aIA : Nat} {O_side K_count T_domain T_turn T_contrast T_offset T_error I_filled I_taken : Int32} {KA_n IA_n : Nat} {KA_f IA_f : Nat → Int32} (x1 : Int32) (x2 : Int32) (x3 : Int32) (x4 : Int32) (x5 : Int32) (hN_O : zA ws0 0 (aO, .inr (0, [.int O_side, .ref aP, .ref aN, .ref aH, .ref aV, .ref aS, .ref aK, .ref aT, .ref aC, .ref aI]))) (hN_K : zA ws0 14 (aK, .inr (5, [.ref aKA, .int K_count]))) (hN_KA : zA ws0 15 (aKA, .inl (cI, KA_n, .inl KA_f))) (hN_T : zA ws0 16 (aT, .inr (4, [.int T_domain, .int T_turn, .int T_contrast, .int T_offset, .int T_error]))) (hN_I : zA ws0 19 (aI, .inr (6, [.ref aIA, .int I_filled, .int I_taken]))) (hN_IA : zA ws0 20 (aIA, .inl (cI, IA_n, .inl IA_f))) (r : Int32 × Int32 × (Nat → Int32) × Int32 × Int32 × Int32 × Int32 × Int32 × Int32) (hf : f_F_readSquare (f_F_readQuarters d) x1 x2 x3 x4 x5 O_side K_count KA_n KA_f T_domain T_turn T_contrast T_offset T_error I_filled I_taken IA_n IA_f = some r) : Met l y_F_readSquare w_F_readSquare (rm_F_readSquare d) (va_Pc [.ref aO, .int x1, .int x2, .int x3, .int x4, .int x5] (zM dC dI cI cL ws0 sz)) (va_Qi (fun (v : Int32) (ws' : va_W) => v = r.1 ∧ zA ws' 14 (aK, .inr (5, [.ref aKA, .int r.2.1])) ∧ zA ws' 15 (aKA, .inl (cI, KA_n, .inl r.2.2.1)) ∧ zA ws' 16 (aT, .inr (4, [.int r.2.2.2.1, .int r.2.2.2.2.1, .int r.2.2.2.2.2.1, .int r.2.2.2.2.2.2.1, .int r.2.2.2.2.2.2.2.1])) ∧ zA ws' 19 (aI, .inr (6, [.ref aIA, .int I_filled, .int r.2.2.2.2.2.2.2.2])) ∧ ∀ (j : Nat), j ∉ ([14, 15, 16, 19] : List Nat) → ws'[j]? = ws0[j]?) (zQ dC dI cI cL (va_A ws0 sz)) (va_A ws0 sz)) 0 0 (va_A ws0 sz) := by
  refine Met.ofW (cc := b_F_readSquare) (maxL := 8) (ret := some .int) (by decide) rfl ?_
  intro p e s m args below meth c s₁ B hml hv
  obtain ⟨rfl, hsz, hP, hK, hZ, hD0⟩ := hv
  have hx := B.exec
  have hb := B.bytes
  have hr := B.returns
  have hlocks := B.notSynchronized
  have hts : ∀ w ∈ BIG, w.before ([.ref aO, .int x1, .int x2, .int x3, .int x4, .int x5] : List Value).toArray s = true := fun w h => atoms_spec (ws := w_F_readSquare) B.pre w (List.mem_cons_of_mem _ h)
  have hown : s.vm.findClass "FractalMaps" = some m.cls := findClass_of_methodNamed B.named
  subst hsz
  have hD := hD0.self (sz := s.heap.size)
  generalize hAe : va_A ws0 s.heap.size = A at hD ⊢
  have hA : ∀ q : Nat, s.heap.size ≤ q → A q := fun q h => by rw [← hAe]; exact Or.inr h
  have hS : va_S A s.heap s.heap [] := va_S.rf
  have hw : ∀ (j : Nat), j ∉ ([14, 15, 16, 19] : List Nat) → ws0[j]? = ws0[j]? := fun _ _ => rfl
  have hl := lv_entry ([.ref aO, .int x1, .int x2, .int x3, .int x4, .int x5]) (n := 8) (Nat.le_of_ble_eq_true rfl)
  rw [lg_entry_eq]
  generalize (lg_sl ([.ref aO, .int x1, .int x2, .int x3, .int x4, .int x5]) ++ List.replicate (8 - (lg_sl ([.ref aO, .int x1, .int x2, .int x3, .int x4, .int x5])).length) Slot.unset).toArray = ls at hl ⊢
  have hl : lv_has ls 8 [(0, .ref aO), (1, .int x1), (2, .int x2), (3, .int x3), (4, .int x4), (5, .int x5)] := hl
  unfold f_F_readSquare at hf
  refine lv_iload_n hx hb d_F_readSquare_0 rfl (lv_at hl 3 rfl) ?_
  refine lv_iload hx hb d_F_readSquare_1 (lv_at hl 4 rfl) ?_
  refine lv_icmp_le (tgt := 17) hx hb d_F_readSquare_3 (by decide) (fun hc => ?_) (fun hc => ?_)
  · have hf := z_t hc hf
    refine lv_iconst (v := 0) hx hb d_F_readSquare_17 (by decide) ?_
    refine lv_istore (lv' := [(6, .int (0 : Int32)), (0, .ref aO), (1, .int x1), (2, .int x2), (3, .int x3), (4, .int x4), (5, .int x5)]) hx hb d_F_readSquare_18 hl (by decide) rfl (fun ls hl => ?_)
    refine lv_iload hx hb d_F_readSquare_20 (lv_at hl 0 rfl) ?_
    refine lv_iconst (v := (-1)) hx hb d_F_readSquare_22 (by decide) ?_
    refine lv_icmp_ne (tgt := 28) hx hb d_F_readSquare_23 (by decide) (fun hc => ?_) (fun hc => ?_)
    · have hf := z_f hc hf
      refine lv_iload hx hb d_F_readSquare_28 (lv_at hl 0 rfl) ?_
      refine lv_iconst (v := 1) hx hb d_F_readSquare_30 (by decide) ?_
      refine lv_icmp_ne (tgt := 48) hx hb d_F_readSquare_31 (by decide) (fun hc => ?_) (fun hc => ?_)
      · have hf := z_f hc hf
        refine lv_aload_n hx hb d_F_readSquare_48 rfl (lv_at hl 1 rfl) ?_
        refine lv_iload_n hx hb d_F_readSquare_49 rfl (lv_at hl 4 rfl) ?_
        obtain ⟨q488, hc, hf⟩ := z_b hf
        have hFc := z_free hD hS hA
        refine va_calli (va_runV (As := [.int x3]) (rest := []) ⟨hx, hb, hml, hown, hts⟩ (c_F_readFit l dC dI cI cL _ x3 hN_O hN_T hN_I hN_IA q488 hc) (cw_F_273 hts ⟨by show 3 + 1 ≤ 2 * d + 4 + 1; omega, by show 8 + (6 + 11) + (68) ≤ 60 * d + 93 + 30; omega⟩) ⟨zbM, va_recv hK hP (ci := 0) rfl hN_O, (zpM hP hK hZ hD)⟩ rfl rfl hl.1 rfl (lv_room (Nat.le_of_ble_eq_true rfl)) d_F_readSquare_50 ⟨Nat.zero_le _, Nat.zero_le _⟩) hS (fun q _ h => hFc q h) hFc (fun rv ws t H locs ht hvm hu hB hz1 hk1 hS => ?_)
        obtain ⟨hv, hN_T, hN_I, hfr⟩ := hu
        subst hv
        obtain ⟨hP, -, hD1⟩ := hB
        rw [ht] at hP
        have hD := hD1.weaken (fun _ _ _ h => hFc _ h)
        have hN_T : zA ws 16 (aT, .inr (4, [.int q488.2.1, .int q488.2.2.1, .int q488.2.2.2.1, .int q488.2.2.2.2.1, .int q488.2.2.2.2.2.1])) := hN_T
        have hN_I : zA ws 19 (aI, .inr (6, [.ref aIA, .int I_filled, .int q488.2.2.2.2.2.2])) := hN_I
        have hN_O := (hfr _ (by decide)).trans hN_O
        have hN_K := (hfr _ (by decide)).trans hN_K
        have hN_KA := (hfr _ (by decide)).trans hN_KA
        have hN_IA := (hfr _ (by decide)).trans hN_IA
        have hw := z_frC (by decide) hw hfr
        refine lv_istore (lv' := [(7, .int q488.1), (6, .int (0 : Int32)), (0, .ref aO), (1, .int x1), (2, .int x2), (3, .int x3), (4, .int x4), (5, .int x5)]) hx hb d_F_readSquare_53 hl (by decide) rfl (fun ls hl => ?_)
        refine lv_iload hx hb d_F_readSquare_55 (lv_at hl 0 rfl) ?_
        refine lv_iconst (v := (-1)) hx hb d_F_readSquare_57 (by decide) ?_
        refine lv_icmp_ne (tgt := 80) hx hb d_F_readSquare_58 (by decide) (fun hc => ?_) (fun hc => ?_)
        · have hf := z_f hc hf
          refine lv_iload hx hb d_F_readSquare_80 (lv_at hl 0 rfl) ?_
          obtain rfl := Option.some.inj hf
          exact W.iret hx hb hr (fun t ht hW => ⟨⟨_, ws, rfl, (by dsimp only; exact ⟨rfl, hN_K, hN_KA, hN_T, hN_I, hw⟩), by rw [ht]; exact hP, va_K.moved hW.alike hK, hD⟩, hS.F ht⟩) hS.2.2 d_F_readSquare_82
        · have hf := z_t hc hf
          refine lv_iload hx hb d_F_readSquare_61 (lv_at hl 7 rfl) ?_
          refine lv_if_eq (tgt := 80) hx hb d_F_readSquare_63 (by decide) (fun hc => ?_) (fun hc => ?_)
          · have hf := z_t hc hf
            refine lv_iload hx hb d_F_readSquare_80 (lv_at hl 0 rfl) ?_
            obtain rfl := Option.some.inj hf
            exact W.iret hx hb hr (fun t ht hW => ⟨⟨_, ws, rfl, (by dsimp only; exact ⟨rfl, hN_K, hN_KA, hN_T, hN_I, hw⟩), by rw [ht]; exact hP, va_K.moved hW.alike hK, hD⟩, hS.F ht⟩) hS.2.2 d_F_readSquare_82
          · have hf := z_f hc hf
            refine lv_aload_n hx hb d_F_readSquare_66 rfl (lv_at hl 2 rfl) ?_
            refine gf_F_60 (v := .ref aK) hx hb hts hown hK hP hN_O rfl d_F_readSquare_67 ?_
            refine lv_iload_n hx hb d_F_readSquare_70 rfl (lv_at hl 3 rfl) ?_
            refine lv_iload_n hx hb d_F_readSquare_71 rfl (lv_at hl 4 rfl) ?_
            refine lv_iload_n hx hb d_F_readSquare_72 rfl (lv_at hl 5 rfl) ?_
            refine lv_aload_n hx hb d_F_readSquare_73 rfl (lv_at hl 2 rfl) ?_
            refine gf_F_67 (v := .ref aT) hx hb hts hown hK hP hN_O rfl d_F_readSquare_74 ?_
            obtain ⟨q489, hc, hf⟩ := z_b hf
            have hFc := z_free hD hS hA
            refine va_callv (va_runV (As := [.int x1, .int x2, .int x3, .ref aT]) (rest := []) ⟨hx, hb, hml, hown, hts⟩ (c_K_add l dC dI cI cL _ x1 x2 x3 hN_K hN_KA hN_T (by decide) (by decide) (by decide) q489 hc) (cw_F_233 hts ⟨by show 0 + 1 ≤ 2 * d + 4 + 1; omega, by show 8 + (6 + 11) + (0) ≤ 60 * d + 93 + 30; omega⟩) ⟨zbM, va_recv hK hP (ci := 5) rfl hN_K, (zpM hP hK hZ hD)⟩ rfl rfl hl.1 rfl (lv_room (Nat.le_of_ble_eq_true rfl)) d_F_readSquare_77 ⟨Nat.zero_le _, Nat.zero_le _⟩) hS (fun q _ h => hFc q h) hFc (fun ws t H locs ht hvm hu hB hz1 hk1 hS => ?_)
            obtain ⟨hN_K, hN_KA, hfr⟩ := hu
            obtain ⟨hP, -, hD1⟩ := hB
            rw [ht] at hP
            have hD := hD1.weaken (fun _ _ _ h => hFc _ h)
            have hN_K : zA ws 14 (aK, .inr (5, [.ref aKA, .int q489.1])) := hN_K
            have hN_KA : zA ws 15 (aKA, .inl (cI, KA_n, .inl q489.2)) := hN_KA
            have hN_O := (hfr _ (by decide)).trans hN_O
            have hN_T := (hfr _ (by decide)).trans hN_T
            have hN_I := (hfr _ (by decide)).trans hN_I
            have hN_IA := (hfr _ (by decide)).trans hN_IA
            have hw := z_frC (by decide) hw hfr
            refine lv_iload hx hb d_F_readSquare_80 (lv_at hl 0 rfl) ?_
            obtain rfl := Option.some.inj hf
            exact W.iret hx hb hr (fun t ht hW => ⟨⟨_, ws, rfl, (by dsimp only; exact ⟨rfl, hN_K, hN_KA, hN_T, hN_I, hw⟩), by rw [ht]; exact hP, va_K.moved hW.alike hK, hD⟩, hS.F ht⟩) hS.2.2 d_F_readSquare_82
      · have hf := z_t hc hf
        refine lv_aload_n hx hb d_F_readSquare_34 rfl (lv_at hl 1 rfl) ?_
        refine lv_iload_n hx hb d_F_readSquare_35 rfl (lv_at hl 2 rfl) ?_
        refine lv_iload_n hx hb d_F_readSquare_36 rfl (lv_at hl 3 rfl) ?_
        refine lv_iload_n hx hb d_F_readSquare_37 rfl (lv_at hl 4 rfl) ?_
        refine lv_iconst (v := 2) hx hb d_F_readSquare_38 (by decide) ?_
        refine lv_idiv hx hb d_F_readSquare_39 (by decide) ?_
        refine lv_iload hx hb d_F_readSquare_40 (lv_at hl 5 rfl) ?_
        refine lv_iload hx hb d_F_readSquare_42 (lv_at hl 6 rfl) ?_
        obtain ⟨q490, hc, hf⟩ := z_b hf
        have hFc := z_free hD hS hA
        refine va_calli (va_runV (As := [.int x1, .int x2, .int (x3 / (2 : Int32)), .int x4, .int x5]) (rest := []) ⟨hx, hb, hml, hown, hts⟩ (hrec dC dI cI cL _ x1 x2 (x3 / (2 : Int32)) x4 x5 hN_O hN_K hN_KA hN_T hN_I hN_IA q490 hc) (cw_F_262 d hts ⟨by show 2 * d + 4 + 1 ≤ 2 * d + 4 + 1; omega, by show 8 + (8 + 11) + (60 * d + 93) ≤ 60 * d + 93 + 30; omega⟩) ⟨zbM, va_recv hK hP (ci := 0) rfl hN_O, (zpM hP hK hZ hD)⟩ rfl rfl hl.1 rfl (lv_room (Nat.le_of_ble_eq_true rfl)) d_F_readSquare_44 ⟨Nat.zero_le _, Nat.zero_le _⟩) hS (fun q _ h => hFc q h) hFc (fun rv ws t H locs ht hvm hu hB hz1 hk1 hS => ?_)
        obtain ⟨hv, hN_K, hN_KA, hN_T, hN_I, hfr⟩ := hu
        subst hv
        obtain ⟨hP, -, hD1⟩ := hB
        rw [ht] at hP
        have hD := hD1.weaken (fun _ _ _ h => hFc _ h)
        have hN_K : zA ws 14 (aK, .inr (5, [.ref aKA, .int q490.2.1])) := hN_K
        have hN_KA : zA ws 15 (aKA, .inl (cI, KA_n, .inl q490.2.2.1)) := hN_KA
        have hN_T : zA ws 16 (aT, .inr (4, [.int q490.2.2.2.1, .int q490.2.2.2.2.1, .int q490.2.2.2.2.2.1, .int q490.2.2.2.2.2.2.1, .int q490.2.2.2.2.2.2.2.1])) := hN_T
        have hN_I : zA ws 19 (aI, .inr (6, [.ref aIA, .int I_filled, .int q490.2.2.2.2.2.2.2.2])) := hN_I
        have hN_O := (hfr _ (by decide)).trans hN_O
        have hN_IA := (hfr _ (by decide)).trans hN_IA
        have hw := z_frC (by decide) hw hfr
        obtain rfl := Option.some.inj hf
        exact W.iret hx hb hr (fun t ht hW => ⟨⟨_, ws, rfl, (by dsimp only; exact ⟨rfl, hN_K, hN_KA, hN_T, hN_I, hw⟩), by rw [ht]; exact hP, va_K.moved hW.alike hK, hD⟩, hS.F ht⟩) hS.2.2 d_F_readSquare_47
    · have hf := z_t hc hf
      refine lv_iconst (v := 3) hx hb d_F_readSquare_26 (by decide) ?_
      obtain rfl := Option.some.inj hf
      exact W.iret hx hb hr (fun t ht hW => ⟨⟨_, ws0, rfl, (by dsimp only; exact ⟨rfl, hN_K, hN_KA, hN_T, hN_I, hw⟩), by rw [ht]; exact hP, va_K.moved hW.alike hK, hD⟩, hS.F ht⟩) hS.2.2 d_F_readSquare_27
  · have hf := z_f hc hf
    refine lv_aload_n hx hb d_F_readSquare_6 rfl (lv_at hl 0 rfl) ?_
    refine gf_F_78 (v := .ref aI) hx hb hts hown hK hP hN_O rfl d_F_readSquare_7 ?_
    refine lv_iconst (v := 1) hx hb d_F_readSquare_10 (by decide) ?_
    obtain ⟨q491, hc, hf⟩ := z_b hf
    have hFc := z_free hD hS hA
    refine va_calli (va_runV (As := [.int (1 : Int32)]) (rest := []) ⟨hx, hb, hml, hown, hts⟩ (c_B_take l dC dI cI cL _ (1 : Int32) hN_I hN_IA (by decide) q491 hc) (cw_F_259 hts ⟨by show 2 + 1 ≤ 2 * d + 4 + 1; omega, by show 8 + (4 + 11) + (42) ≤ 60 * d + 93 + 30; omega⟩) ⟨zbM, va_recv hK hP (ci := 6) rfl hN_I, (zpM hP hK hZ hD)⟩ rfl rfl hl.1 rfl (lv_room (Nat.le_of_ble_eq_true rfl)) d_F_readSquare_11 ⟨Nat.zero_le _, Nat.zero_le _⟩) hS (fun q _ h => hFc q h) hFc (fun rv ws t H locs ht hvm hu hB hz1 hk1 hS => ?_)
    obtain ⟨hv, hN_I, hfr⟩ := hu
    subst hv
    obtain ⟨hP, -, hD1⟩ := hB
    rw [ht] at hP
    have hD := hD1.weaken (fun _ _ _ h => hFc _ h)
    have hN_I : zA ws 19 (aI, .inr (6, [.ref aIA, .int I_filled, .int q491.2])) := hN_I
    have hN_O := (hfr _ (by decide)).trans hN_O
    have hN_K := (hfr _ (by decide)).trans hN_K
    have hN_KA := (hfr _ (by decide)).trans hN_KA
    have hN_T := (hfr _ (by decide)).trans hN_T
    have hN_IA := (hfr _ (by decide)).trans hN_IA
    have hw := z_frC (by decide) hw hfr
    refine lv_goto (tgt := 18) hx hb d_F_readSquare_14 (by decide) ?_
    refine lv_istore (lv' := [(6, .int q491.1), (0, .ref aO), (1, .int x1), (2, .int x2), (3, .int x3), (4, .int x4), (5, .int x5)]) hx hb d_F_readSquare_18 hl (by decide) rfl (fun ls hl => ?_)
    refine lv_iload hx hb d_F_readSquare_20 (lv_at hl 0 rfl) ?_
    refine lv_iconst (v := (-1)) hx hb d_F_readSquare_22 (by decide) ?_
    refine lv_icmp_ne (tgt := 28) hx hb d_F_readSquare_23 (by decide) (fun hc => ?_) (fun hc => ?_)
    · have hf := z_f hc hf
      refine lv_iload hx hb d_F_readSquare_28 (lv_at hl 0 rfl) ?_
      refine lv_iconst (v := 1) hx hb d_F_readSquare_30 (by decide) ?_
      refine lv_icmp_ne (tgt := 48) hx hb d_F_readSquare_31 (by decide) (fun hc => ?_) (fun hc => ?_)
      · have hf := z_f hc hf
        refine lv_aload_n hx hb d_F_readSquare_48 rfl (lv_at hl 1 rfl) ?_
        refine lv_iload_n hx hb d_F_readSquare_49 rfl (lv_at hl 4 rfl) ?_
        obtain ⟨q492, hc, hf⟩ := z_b hf
        have hFc := z_free hD hS hA
        refine va_calli (va_runV (As := [.int x3]) (rest := []) ⟨hx, hb, hml, hown, hts⟩ (c_F_readFit l dC dI cI cL _ x3 hN_O hN_T hN_I hN_IA q492 hc) (cw_F_273 hts ⟨by show 3 + 1 ≤ 2 * d + 4 + 1; omega, by show 8 + (6 + 11) + (68) ≤ 60 * d + 93 + 30; omega⟩) ⟨zbM, va_recv hK hP (ci := 0) rfl hN_O, (zpM hP hK hZ hD)⟩ rfl rfl hl.1 rfl (lv_room (Nat.le_of_ble_eq_true rfl)) d_F_readSquare_50 ⟨Nat.zero_le _, Nat.zero_le _⟩) hS (fun q _ h => hFc q h) hFc (fun rv ws t H locs ht hvm hu hB hz1 hk1 hS => ?_)
        obtain ⟨hv, hN_T, hN_I, hfr⟩ := hu
        subst hv
        obtain ⟨hP, -, hD1⟩ := hB
        rw [ht] at hP
        have hD := hD1.weaken (fun _ _ _ h => hFc _ h)
        have hN_T : zA ws 16 (aT, .inr (4, [.int q492.2.1, .int q492.2.2.1, .int q492.2.2.2.1, .int q492.2.2.2.2.1, .int q492.2.2.2.2.2.1])) := hN_T
        have hN_I : zA ws 19 (aI, .inr (6, [.ref aIA, .int I_filled, .int q492.2.2.2.2.2.2])) := hN_I
        have hN_O := (hfr _ (by decide)).trans hN_O
        have hN_K := (hfr _ (by decide)).trans hN_K
        have hN_KA := (hfr _ (by decide)).trans hN_KA
        have hN_IA := (hfr _ (by decide)).trans hN_IA
        have hw := z_frC (by decide) hw hfr
        refine lv_istore (lv' := [(7, .int q492.1), (6, .int q491.1), (0, .ref aO), (1, .int x1), (2, .int x2), (3, .int x3), (4, .int x4), (5, .int x5)]) hx hb d_F_readSquare_53 hl (by decide) rfl (fun ls hl => ?_)
        refine lv_iload hx hb d_F_readSquare_55 (lv_at hl 0 rfl) ?_
        refine lv_iconst (v := (-1)) hx hb d_F_readSquare_57 (by decide) ?_
        refine lv_icmp_ne (tgt := 80) hx hb d_F_readSquare_58 (by decide) (fun hc => ?_) (fun hc => ?_)
        · have hf := z_f hc hf
          refine lv_iload hx hb d_F_readSquare_80 (lv_at hl 0 rfl) ?_
          obtain rfl := Option.some.inj hf
          exact W.iret hx hb hr (fun t ht hW => ⟨⟨_, ws, rfl, (by dsimp only; exact ⟨rfl, hN_K, hN_KA, hN_T, hN_I, hw⟩), by rw [ht]; exact hP, va_K.moved hW.alike hK, hD⟩, hS.F ht⟩) hS.2.2 d_F_readSquare_82
        · have hf := z_t hc hf
          refine lv_iload hx hb d_F_readSquare_61 (lv_at hl 7 rfl) ?_
          refine lv_if_eq (tgt := 80) hx hb d_F_readSquare_63 (by decide) (fun hc => ?_) (fun hc => ?_)
          · have hf := z_t hc hf
            refine lv_iload hx hb d_F_readSquare_80 (lv_at hl 0 rfl) ?_
            obtain rfl := Option.some.inj hf
            exact W.iret hx hb hr (fun t ht hW => ⟨⟨_, ws, rfl, (by dsimp only; exact ⟨rfl, hN_K, hN_KA, hN_T, hN_I, hw⟩), by rw [ht]; exact hP, va_K.moved hW.alike hK, hD⟩, hS.F ht⟩) hS.2.2 d_F_readSquare_82
          · have hf := z_f hc hf
            refine lv_aload_n hx hb d_F_readSquare_66 rfl (lv_at hl 2 rfl) ?_
            refine gf_F_60 (v := .ref aK) hx hb hts hown hK hP hN_O rfl d_F_readSquare_67 ?_
            refine lv_iload_n hx hb d_F_readSquare_70 rfl (lv_at hl 3 rfl) ?_
            refine lv_iload_n hx hb d_F_readSquare_71 rfl (lv_at hl 4 rfl) ?_
            refine lv_iload_n hx hb d_F_readSquare_72 rfl (lv_at hl 5 rfl) ?_
            refine lv_aload_n hx hb d_F_readSquare_73 rfl (lv_at hl 2 rfl) ?_
            refine gf_F_67 (v := .ref aT) hx hb hts hown hK hP hN_O rfl d_F_readSquare_74 ?_
            obtain ⟨q493, hc, hf⟩ := z_b hf
            have hFc := z_free hD hS hA
            refine va_callv (va_runV (As := [.int x1, .int x2, .int x3, .ref aT]) (rest := []) ⟨hx, hb, hml, hown, hts⟩ (c_K_add l dC dI cI cL _ x1 x2 x3 hN_K hN_KA hN_T (by decide) (by decide) (by decide) q493 hc) (cw_F_233 hts ⟨by show 0 + 1 ≤ 2 * d + 4 + 1; omega, by show 8 + (6 + 11) + (0) ≤ 60 * d + 93 + 30; omega⟩) ⟨zbM, va_recv hK hP (ci := 5) rfl hN_K, (zpM hP hK hZ hD)⟩ rfl rfl hl.1 rfl (lv_room (Nat.le_of_ble_eq_true rfl)) d_F_readSquare_77 ⟨Nat.zero_le _, Nat.zero_le _⟩) hS (fun q _ h => hFc q h) hFc (fun ws t H locs ht hvm hu hB hz1 hk1 hS => ?_)
            obtain ⟨hN_K, hN_KA, hfr⟩ := hu
            obtain ⟨hP, -, hD1⟩ := hB
            rw [ht] at hP
            have hD := hD1.weaken (fun _ _ _ h => hFc _ h)
            have hN_K : zA ws 14 (aK, .inr (5, [.ref aKA, .int q493.1])) := hN_K
            have hN_KA : zA ws 15 (aKA, .inl (cI, KA_n, .inl q493.2)) := hN_KA
            have hN_O := (hfr _ (by decide)).trans hN_O
            have hN_T := (hfr _ (by decide)).trans hN_T
            have hN_I := (hfr _ (by decide)).trans hN_I
            have hN_IA := (hfr _ (by decide)).trans hN_IA
            have hw := z_frC (by decide) hw hfr
            refine lv_iload hx hb d_F_readSquare_80 (lv_at hl 0 rfl) ?_
            obtain rfl := Option.some.inj hf
            exact W.iret hx hb hr (fun t ht hW => ⟨⟨_, ws, rfl, (by dsimp only; exact ⟨rfl, hN_K, hN_KA, hN_T, hN_I, hw⟩), by rw [ht]; exact hP, va_K.moved hW.alike hK, hD⟩, hS.F ht⟩) hS.2.2 d_F_readSquare_82
      · have hf := z_t hc hf
        refine lv_aload_n hx hb d_F_readSquare_34 rfl (lv_at hl 1 rfl) ?_
        refine lv_iload_n hx hb d_F_readSquare_35 rfl (lv_at hl 2 rfl) ?_
        refine lv_iload_n hx hb d_F_readSquare_36 rfl (lv_at hl 3 rfl) ?_
        refine lv_iload_n hx hb d_F_readSquare_37 rfl (lv_at hl 4 rfl) ?_
        refine lv_iconst (v := 2) hx hb d_F_readSquare_38 (by decide) ?_
        refine lv_idiv hx hb d_F_readSquare_39 (by decide) ?_
        refine lv_iload hx hb d_F_readSquare_40 (lv_at hl 5 rfl) ?_
        refine lv_iload hx hb d_F_readSquare_42 (lv_at hl 6 rfl) ?_
        obtain ⟨q494, hc, hf⟩ := z_b hf
        have hFc := z_free hD hS hA
        refine va_calli (va_runV (As := [.int x1, .int x2, .int (x3 / (2 : Int32)), .int x4, .int x5]) (rest := []) ⟨hx, hb, hml, hown, hts⟩ (hrec dC dI cI cL _ x1 x2 (x3 / (2 : Int32)) x4 x5 hN_O hN_K hN_KA hN_T hN_I hN_IA q494 hc) (cw_F_262 d hts ⟨by show 2 * d + 4 + 1 ≤ 2 * d + 4 + 1; omega, by show 8 + (8 + 11) + (60 * d + 93) ≤ 60 * d + 93 + 30; omega⟩) ⟨zbM, va_recv hK hP (ci := 0) rfl hN_O, (zpM hP hK hZ hD)⟩ rfl rfl hl.1 rfl (lv_room (Nat.le_of_ble_eq_true rfl)) d_F_readSquare_44 ⟨Nat.zero_le _, Nat.zero_le _⟩) hS (fun q _ h => hFc q h) hFc (fun rv ws t H locs ht hvm hu hB hz1 hk1 hS => ?_)
        obtain ⟨hv, hN_K, hN_KA, hN_T, hN_I, hfr⟩ := hu
        subst hv
        obtain ⟨hP, -, hD1⟩ := hB
        rw [ht] at hP
        have hD := hD1.weaken (fun _ _ _ h => hFc _ h)
        have hN_K : zA ws 14 (aK, .inr (5, [.ref aKA, .int q494.2.1])) := hN_K
        have hN_KA : zA ws 15 (aKA, .inl (cI, KA_n, .inl q494.2.2.1)) := hN_KA
        have hN_T : zA ws 16 (aT, .inr (4, [.int q494.2.2.2.1, .int q494.2.2.2.2.1, .int q494.2.2.2.2.2.1, .int q494.2.2.2.2.2.2.1, .int q494.2.2.2.2.2.2.2.1])) := hN_T
        have hN_I : zA ws 19 (aI, .inr (6, [.ref aIA, .int I_filled, .int q494.2.2.2.2.2.2.2.2])) := hN_I
        have hN_O := (hfr _ (by decide)).trans hN_O
        have hN_IA := (hfr _ (by decide)).trans hN_IA
        have hw := z_frC (by decide) hw hfr
        obtain rfl := Option.some.inj hf
        exact W.iret hx hb hr (fun t ht hW => ⟨⟨_, ws, rfl, (by dsimp only; exact ⟨rfl, hN_K, hN_KA, hN_T, hN_I, hw⟩), by rw [ht]; exact hP, va_K.moved hW.alike hK, hD⟩, hS.F ht⟩) hS.2.2 d_F_readSquare_47
    · have hf := z_t hc hf
      refine lv_iconst (v := 3) hx hb d_F_readSquare_26 (by decide) ?_
      obtain rfl := Option.some.inj hf
      exact W.iret hx hb hr (fun t ht hW => ⟨⟨_, ws, rfl, (by dsimp only; exact ⟨rfl, hN_K, hN_KA, hN_T, hN_I, hw⟩), by rw [ht]; exact hP, va_K.moved hW.alike hK, hD⟩, hS.F ht⟩) hS.2.2 d_F_readSquare_27
set_option maxHeartbeats 4000000 in
set_option maxRecDepth 100000 in
theorem c_F_readQuarters (l : Launch) : ∀ d, CA_F_readQuarters l d := by
  intro d
  induction d with
  | zero =>
    intro dC dI cI cL ws0 sz aO aP aN aH aV aS aK aT aC aI aKA aIA O_side K_count T_domain T_turn T_contrast T_offset T_error I_filled I_taken KA_n IA_n KA_f IA_f x1 x2 x3 x4 x5 hN_O hN_K hN_KA hN_T hN_I hN_IA r hf
    cases hf
  | succ d ih0 =>
    intro dC dI cI cL ws0 sz aO aP aN aH aV aS aK aT aC aI aKA aIA O_side K_count T_domain T_turn T_contrast T_offset T_error I_filled I_taken KA_n IA_n KA_f IA_f x1 x2 x3 x4 x5 hN_O hN_K hN_KA hN_T hN_I hN_IA r hf
    rw [f_F_readQuarters] at hf
    refine Met.ofW (cc := b_F_readQuarters) (maxL := 8) (ret := some .int) (by decide) rfl ?_
    intro p e s m args below meth c s₁ B hml hv
    obtain ⟨rfl, hsz, hP, hK, hZ, hD0⟩ := hv
    have hx := B.exec
    have hb := B.bytes
    have hr := B.returns
    have hlocks := B.notSynchronized
    have hts : ∀ w ∈ BIG, w.before ([.ref aO, .int x1, .int x2, .int x3, .int x4, .int x5] : List Value).toArray s = true := fun w h => atoms_spec (ws := w_F_readQuarters) B.pre w (List.mem_cons_of_mem _ h)
    have hown : s.vm.findClass "FractalMaps" = some m.cls := findClass_of_methodNamed B.named
    subst hsz
    have hD := hD0.self (sz := s.heap.size)
    generalize hAe : va_A ws0 s.heap.size = A at hD ⊢
    have hA : ∀ q : Nat, s.heap.size ≤ q → A q := fun q h => by rw [← hAe]; exact Or.inr h
    have hS : va_S A s.heap s.heap [] := va_S.rf
    have hw : ∀ (j : Nat), j ∉ ([14, 15, 16, 19] : List Nat) → ws0[j]? = ws0[j]? := fun _ _ => rfl
    have hl := lv_entry ([.ref aO, .int x1, .int x2, .int x3, .int x4, .int x5]) (n := 8) (Nat.le_of_ble_eq_true rfl)
    rw [lg_entry_eq]
    generalize (lg_sl ([.ref aO, .int x1, .int x2, .int x3, .int x4, .int x5]) ++ List.replicate (8 - (lg_sl ([.ref aO, .int x1, .int x2, .int x3, .int x4, .int x5])).length) Slot.unset).toArray = ls at hl ⊢
    have hl : lv_has ls 8 [(0, .ref aO), (1, .int x1), (2, .int x2), (3, .int x3), (4, .int x4), (5, .int x5)] := hl
    refine lv_iload_n hx hb d_F_readQuarters_0 rfl (lv_at hl 3 rfl) ?_
    refine lv_iconst (v := 2) hx hb d_F_readQuarters_1 (by decide) ?_
    refine lv_icmp_ge (tgt := 7) hx hb d_F_readQuarters_2 (by decide) (fun hc => ?_) (fun hc => ?_)
    · have hf := z_t hc hf
      refine lv_iconst (v := (-1)) hx hb d_F_readQuarters_7 (by decide) ?_
      refine lv_istore (lv' := [(6, .int ((-1) : Int32)), (0, .ref aO), (1, .int x1), (2, .int x2), (3, .int x3), (4, .int x4), (5, .int x5)]) hx hb d_F_readQuarters_8 hl (by decide) rfl (fun ls hl => ?_)
      refine lv_iconst (v := 0) hx hb d_F_readQuarters_10 (by decide) ?_
      refine lv_istore (lv' := [(7, .int (0 : Int32)), (6, .int ((-1) : Int32)), (0, .ref aO), (1, .int x1), (2, .int x2), (3, .int x3), (4, .int x4), (5, .int x5)]) hx hb d_F_readQuarters_11 hl (by decide) rfl (fun ls hl => ?_)
      have lp511 : ∀ (Qx : State → Prop) (n : Nat) (v6_501 : Int32) (v7_502 : Int32) (K_count_503 : Int32) (KA_f_504 : Nat → Int32) (T_domain_505 : Int32) (T_turn_506 : Int32) (T_contrast_507 : Int32) (T_offset_508 : Int32) (T_error_509 : Int32) (I_taken_510 : Int32) (ws : va_W) (H : Heap) (locs : List Loc) (ls : Array Slot) (q : Int32 × Int32 × Int32 × (Nat → Int32) × Int32 × Int32 × Int32 × Int32 × Int32 × Int32) (hf : f_F_readQuarters_13 (f_F_readQuarters d) x1 x2 x3 x4 x5 O_side KA_n I_filled IA_n IA_f n v6_501 v7_502 K_count_503 KA_f_504 T_domain_505 T_turn_506 T_contrast_507 T_offset_508 T_error_509 I_taken_510 = some q) (hl : lv_has ls 8 [(0, .ref aO), (1, .int x1), (2, .int x2), (3, .int x3), (4, .int x4), (5, .int x5), (6, .int v6_501), (7, .int v7_502)]) (hP : va_P (dC, dI) classes ws H) (hD : va_D A ws) (hS : va_S A s.heap H locs) (hN_O : zA ws 0 (aO, .inr (0, [.int O_side, .ref aP, .ref aN, .ref aH, .ref aV, .ref aS, .ref aK, .ref aT, .ref aC, .ref aI]))) (hN_K : zA ws 14 (aK, .inr (5, [.ref aKA, .int K_count_503]))) (hN_KA : zA ws 15 (aKA, .inl (cI, KA_n, .inl KA_f_504))) (hN_T : zA ws 16 (aT, .inr (4, [.int T_domain_505, .int T_turn_506, .int T_contrast_507, .int T_offset_508, .int T_error_509]))) (hN_I : zA ws 19 (aI, .inr (6, [.ref aIA, .int I_filled, .int I_taken_510]))) (hN_IA : zA ws 20 (aIA, .inl (cI, IA_n, .inl IA_f))) (hw : ∀ (j : Nat), j ∉ ([14, 15, 16, 19] : List Nat) → ws[j]? = ws0[j]?) (kt0 : ∀ (ws : va_W) (H : Heap) (locs : List Loc) (ls : Array Slot), lv_has ls 8 [(0, .ref aO), (1, .int x1), (2, .int x2), (3, .int x3), (4, .int x4), (5, .int x5), (6, .int q.1), (7, .int q.2.1)] → (va_P (dC, dI) classes ws H) → (va_D A ws) → (va_S A s.heap H locs) → (zA ws 0 (aO, .inr (0, [.int O_side, .ref aP, .ref aN, .ref aH, .ref aV, .ref aS, .ref aK, .ref aT, .ref aC, .ref aI]))) → (zA ws 14 (aK, .inr (5, [.ref aKA, .int q.2.2.1]))) → (zA ws 15 (aKA, .inl (cI, KA_n, .inl q.2.2.2.1))) → (zA ws 16 (aT, .inr (4, [.int q.2.2.2.2.1, .int q.2.2.2.2.2.1, .int q.2.2.2.2.2.2.1, .int q.2.2.2.2.2.2.2.1, .int q.2.2.2.2.2.2.2.2.1]))) → (zA ws 19 (aI, .inr (6, [.ref aIA, .int I_filled, .int q.2.2.2.2.2.2.2.2.2]))) → (zA ws 20 (aIA, .inl (cI, IA_n, .inl IA_f))) → (∀ (j : Nat), j ∉ ([14, 15, 16, 19] : List Nat) → ws[j]? = ws0[j]?) → W p l e (headSpec w_F_readQuarters (rm_F_readQuarters (d + 1))).room s m ([.ref aO, .int x1, .int x2, .int x3, .int x4, .int x5] : List Value).toArray below meth c H locs 0 0 Qx (F0 m 60 ls [])), W p l e (headSpec w_F_readQuarters (rm_F_readQuarters (d + 1))).room s m ([.ref aO, .int x1, .int x2, .int x3, .int x4, .int x5] : List Value).toArray below meth c H locs 0 0 Qx (F0 m 13 ls []) := by
        intro Qx n
        induction n with
        | zero => intro v6_501 v7_502 K_count_503 KA_f_504 T_domain_505 T_turn_506 T_contrast_507 T_offset_508 T_error_509 I_taken_510 ws H locs ls q hf; cases hf
        | succ n ih =>
          intro v6_501 v7_502 K_count_503 KA_f_504 T_domain_505 T_turn_506 T_contrast_507 T_offset_508 T_error_509 I_taken_510 ws H locs ls q hf hl hP hD hS hN_O hN_K hN_KA hN_T hN_I hN_IA hw kt0
          rw [f_F_readQuarters_13] at hf
          refine lv_iload hx hb d_F_readQuarters_13 (lv_at hl 7 rfl) ?_
          refine lv_iconst (v := 4) hx hb d_F_readQuarters_15 (by decide) ?_
          refine lv_icmp_ge (tgt := 60) hx hb d_F_readQuarters_16 (by decide) (fun hc => ?_) (fun hc => ?_)
          · have hf := z_t hc hf
            obtain rfl := Option.some.inj hf
            exact kt0 _ _ _ ls (lv_sub hl [0, 1, 2, 3, 4, 5, 6, 7] rfl) hP hD hS hN_O hN_K hN_KA hN_T hN_I hN_IA hw
          · have hf := z_f hc hf
            refine lv_iload hx hb d_F_readQuarters_19 (lv_at hl 6 rfl) ?_
            refine lv_iconst (v := (-1)) hx hb d_F_readQuarters_21 (by decide) ?_
            refine lv_icmp_ne (tgt := 60) hx hb d_F_readQuarters_22 (by decide) (fun hc => ?_) (fun hc => ?_)
            · have hf := z_f hc hf
              obtain rfl := Option.some.inj hf
              exact kt0 _ _ _ ls (lv_sub hl [0, 1, 2, 3, 4, 5, 6, 7] rfl) hP hD hS hN_O hN_K hN_KA hN_T hN_I hN_IA hw
            · have hf := z_t hc hf
              refine lv_aload_n hx hb d_F_readQuarters_25 rfl (lv_at hl 0 rfl) ?_
              refine lv_iload_n hx hb d_F_readQuarters_26 rfl (lv_at hl 1 rfl) ?_
              refine lv_iload hx hb d_F_readQuarters_27 (lv_at hl 7 rfl) ?_
              obtain ⟨q512, hc, hf⟩ := z_b hf
              refine vp_callSi (z_cr (va_runS (As := [.int v7_502]) (rest := [.int x1, .ref aO]) ⟨hx, hb, hml, hown, hts⟩ (c_F_acrossOf l v7_502 q512 hc) (cw_F_215 hts ⟨by show 0 + 1 ≤ 2 * (d + 1) + 4; omega, by show 8 + (1 + 11) + (0) ≤ 60 * (d + 1) + 93; omega⟩) ⟨zb0, zp0⟩ rfl rfl hl.1 rfl (lv_room (Nat.le_of_ble_eq_true rfl)) d_F_readQuarters_29 ⟨Nat.zero_le _, Nat.zero_le _⟩)) (fun r513 hv => ?_)
              have hv := hv.symm
              subst hv
              refine lv_iload_n hx hb d_F_readQuarters_32 rfl (lv_at hl 3 rfl) ?_
              refine lv_imul hx hb d_F_readQuarters_33 ?_
              refine lv_iadd hx hb d_F_readQuarters_34 ?_
              refine lv_iload_n hx hb d_F_readQuarters_35 rfl (lv_at hl 2 rfl) ?_
              refine lv_iload hx hb d_F_readQuarters_36 (lv_at hl 7 rfl) ?_
              obtain ⟨q514, hc, hf⟩ := z_b hf
              refine vp_callSi (z_cr (va_runS (As := [.int v7_502]) (rest := [.int x2, .int (x1 + (q512 * x3)), .ref aO]) ⟨hx, hb, hml, hown, hts⟩ (c_F_downOf l v7_502 q514 hc) (cw_F_218 hts ⟨by show 0 + 1 ≤ 2 * (d + 1) + 4; omega, by show 8 + (1 + 11) + (0) ≤ 60 * (d + 1) + 93; omega⟩) ⟨zb0, zp0⟩ rfl rfl hl.1 rfl (lv_room (Nat.le_of_ble_eq_true rfl)) d_F_readQuarters_38 ⟨Nat.zero_le _, Nat.zero_le _⟩)) (fun r515 hv => ?_)
              have hv := hv.symm
              subst hv
              refine lv_iload_n hx hb d_F_readQuarters_41 rfl (lv_at hl 3 rfl) ?_
              refine lv_imul hx hb d_F_readQuarters_42 ?_
              refine lv_iadd hx hb d_F_readQuarters_43 ?_
              refine lv_iload_n hx hb d_F_readQuarters_44 rfl (lv_at hl 3 rfl) ?_
              refine lv_iload hx hb d_F_readQuarters_45 (lv_at hl 4 rfl) ?_
              refine lv_iload hx hb d_F_readQuarters_47 (lv_at hl 5 rfl) ?_
              obtain ⟨q516, hc, hf⟩ := z_b hf
              have hFc := z_free hD hS hA
              refine va_calli (va_runV (As := [.int (x1 + (q512 * x3)), .int (x2 + (q514 * x3)), .int x3, .int x4, .int x5]) (rest := []) ⟨hx, hb, hml, hown, hts⟩ (c_F_readSquare l d ih0 dC dI cI cL _ (x1 + (q512 * x3)) (x2 + (q514 * x3)) x3 x4 x5 hN_O hN_K hN_KA hN_T hN_I hN_IA q516 hc) (cw_F_270 d hts ⟨by show 2 * d + 4 + 1 + 1 ≤ 2 * (d + 1) + 4; omega, by show 8 + (8 + 11) + (60 * d + 93 + 30) ≤ 60 * (d + 1) + 93; omega⟩) ⟨zbM, va_recv hK hP (ci := 0) rfl hN_O, (zpM hP hK hZ hD)⟩ rfl rfl hl.1 rfl (lv_room (Nat.le_of_ble_eq_true rfl)) d_F_readQuarters_49 ⟨Nat.zero_le _, Nat.zero_le _⟩) hS (fun q _ h => hFc q h) hFc (fun rv ws t H locs ht hvm hu hB hz1 hk1 hS => ?_)
              obtain ⟨hv, hN_K, hN_KA, hN_T, hN_I, hfr⟩ := hu
              subst hv
              obtain ⟨hP, -, hD1⟩ := hB
              rw [ht] at hP
              have hD := hD1.weaken (fun _ _ _ h => hFc _ h)
              have hN_K : zA ws 14 (aK, .inr (5, [.ref aKA, .int q516.2.1])) := hN_K
              have hN_KA : zA ws 15 (aKA, .inl (cI, KA_n, .inl q516.2.2.1)) := hN_KA
              have hN_T : zA ws 16 (aT, .inr (4, [.int q516.2.2.2.1, .int q516.2.2.2.2.1, .int q516.2.2.2.2.2.1, .int q516.2.2.2.2.2.2.1, .int q516.2.2.2.2.2.2.2.1])) := hN_T
              have hN_I : zA ws 19 (aI, .inr (6, [.ref aIA, .int I_filled, .int q516.2.2.2.2.2.2.2.2])) := hN_I
              have hN_O := (hfr _ (by decide)).trans hN_O
              have hN_IA := (hfr _ (by decide)).trans hN_IA
              have hw := z_frC (by decide) hw hfr
              refine lv_istore (lv' := [(6, .int q516.1), (0, .ref aO), (1, .int x1), (2, .int x2), (3, .int x3), (4, .int x4), (5, .int x5), (7, .int v7_502)]) hx hb d_F_readQuarters_52 hl (by decide) rfl (fun ls hl => ?_)
              refine lv_iinc (v := (v7_502 + 1)) (lv' := [(7, .int (v7_502 + 1)), (6, .int q516.1), (0, .ref aO), (1, .int x1), (2, .int x2), (3, .int x3), (4, .int x4), (5, .int x5)]) hx hb d_F_readQuarters_54 hl (k := 7) rfl rfl (by decide) rfl (fun ls hl => ?_)
              refine lv_goto (tgt := 13) hx hb d_F_readQuarters_57 (by decide) ?_
              exact ih q516.1 (v7_502 + 1) q516.2.1 q516.2.2.1 q516.2.2.2.1 q516.2.2.2.2.1 q516.2.2.2.2.2.1 q516.2.2.2.2.2.2.1 q516.2.2.2.2.2.2.2.1 q516.2.2.2.2.2.2.2.2 _ _ _ ls _ hf (lv_sub hl [2, 3, 4, 5, 6, 7, 1, 0] rfl) hP hD hS hN_O hN_K hN_KA hN_T hN_I hN_IA hw kt0
      obtain ⟨q500, hc, hf⟩ := z_b hf
      refine lp511 _ FU ((-1) : Int32) (0 : Int32) K_count KA_f T_domain T_turn T_contrast T_offset T_error I_taken _ _ _ ls q500 hc (lv_sub hl [2, 3, 4, 5, 6, 7, 1, 0] rfl) hP hD hS hN_O hN_K hN_KA hN_T hN_I hN_IA hw (fun ws H locs ls hl hP hD hS hN_O hN_K hN_KA hN_T hN_I hN_IA hw => ?_)
      refine lv_iload hx hb d_F_readQuarters_60 (lv_at hl 6 rfl) ?_
      obtain rfl := Option.some.inj hf
      exact W.iret hx hb hr (fun t ht hW => ⟨⟨_, ws, rfl, (by dsimp only; exact ⟨rfl, hN_K, hN_KA, hN_T, hN_I, hw⟩), by rw [ht]; exact hP, va_K.moved hW.alike hK, hD⟩, hS.F ht⟩) hS.2.2 d_F_readQuarters_62
    · have hf := z_f hc hf
      refine lv_iconst (v := 0) hx hb d_F_readQuarters_5 (by decide) ?_
      obtain rfl := Option.some.inj hf
      exact W.iret hx hb hr (fun t ht hW => ⟨⟨_, ws0, rfl, (by dsimp only; exact ⟨rfl, hN_K, hN_KA, hN_T, hN_I, hw⟩), by rw [ht]; exact hP, va_K.moved hW.alike hK, hD⟩, hS.F ht⟩) hS.2.2 d_F_readQuarters_6
def f_B_restIsFilling_21 (B_filled : Int32) (BA_n : Nat) (BA_f : Nat → Int32) : Nat → Int32 → Option (Int32 ⊕ Int32)
  | 0, _ => none
  | n + 1, v1 => if B_filled ≤ v1 then (some (.inr (v1))) else ((f_B_bitAt v1 BA_n BA_f).bind (fun q517 => if q517 = 0 then (f_B_restIsFilling_21 B_filled BA_n BA_f n (v1 + 1)) else (some (.inl v1))))
def f_B_restIsFilling (B_filled : Int32) (B_taken : Int32) (BA_n : Nat) (BA_f : Nat → Int32) : Option (Int32) := if (B_filled - B_taken) < (8 : Int32) then ((f_B_restIsFilling_21 B_filled BA_n BA_f FU B_taken).bind (Sum.elim (fun a => some (0 : Int32)) (fun a => some (1 : Int32)))) else (some (0 : Int32))
set_option maxHeartbeats 4000000 in
set_option maxRecDepth 100000 in
theorem c_B_restIsFilling (l : Launch) (dC : Nat → ClassId) (dI : Nat → Nat → Nat) (cI cL : ClassId) {ws : va_W} {kB kBA aB aBA : Nat} {B_filled B_taken : Int32} {BA_n : Nat} {BA_f : Nat → Int32} (hN_B : zA ws kB (aB, .inr (6, [.ref aBA, .int B_filled, .int B_taken]))) (hN_BA : zA ws kBA (aBA, .inl (cI, BA_n, .inl BA_f))) (r : Int32) (hf : f_B_restIsFilling B_filled B_taken BA_n BA_f = some r) : Met l y_B_restIsFilling w_B_restIsFilling rm_B_restIsFilling (va_Pc [.ref aB] (zR dC dI cI cL ws)) (vp_Si (fun v => v = r)) 0 0 (fun _ => False) := by
  refine Met.ofW (cc := b_B_restIsFilling) (maxL := 2) (ret := some .boolean) (by decide) rfl ?_
  intro p e s m args below meth c s₁ B hml hv
  obtain ⟨rfl, hP, hK, hZ⟩ := hv
  have hx := B.exec
  have hb := B.bytes
  have hr := B.returns
  have hlocks := B.notSynchronized
  have hts : ∀ w ∈ BIG, w.before ([.ref aB] : List Value).toArray s = true := fun w h => atoms_spec (ws := w_B_restIsFilling) B.pre w (List.mem_cons_of_mem _ h)
  have hown : s.vm.findClass "FractalMaps$Bits" = some m.cls := findClass_of_methodNamed B.named
  have hl := lv_entry ([.ref aB]) (n := 2) (Nat.le_of_ble_eq_true rfl)
  rw [lg_entry_eq]
  generalize (lg_sl ([.ref aB]) ++ List.replicate (2 - (lg_sl ([.ref aB])).length) Slot.unset).toArray = ls at hl ⊢
  have hl : lv_has ls 2 [(0, .ref aB)] := hl
  unfold f_B_restIsFilling at hf
  refine lv_aload_n hx hb d_B_restIsFilling_0 rfl (lv_at hl 0 rfl) ?_
  refine gf_B_24 (v := .int B_filled) hx hb hts hown hK hP hN_B rfl d_B_restIsFilling_1 ?_
  refine lv_aload_n hx hb d_B_restIsFilling_4 rfl (lv_at hl 0 rfl) ?_
  refine gf_B_28 (v := .int B_taken) hx hb hts hown hK hP hN_B rfl d_B_restIsFilling_5 ?_
  refine lv_isub hx hb d_B_restIsFilling_8 ?_
  refine lv_bipush (v := 8) hx hb d_B_restIsFilling_9 (by decide) ?_
  refine lv_icmp_lt (tgt := 16) hx hb d_B_restIsFilling_11 (by decide) (fun hc => ?_) (fun hc => ?_)
  · have hf := z_t hc hf
    refine lv_aload_n hx hb d_B_restIsFilling_16 rfl (lv_at hl 0 rfl) ?_
    refine gf_B_28 (v := .int B_taken) hx hb hts hown hK hP hN_B rfl d_B_restIsFilling_17 ?_
    refine lv_istore_n (lv' := [(1, .int B_taken), (0, .ref aB)]) hx hb d_B_restIsFilling_20 rfl hl (by decide) rfl (fun ls hl => ?_)
    have lp521 : ∀ (Qx : State → Prop) (n : Nat) (v1_520 : Int32) (ls : Array Slot) (q : Int32 ⊕ Int32) (hf : f_B_restIsFilling_21 B_filled BA_n BA_f n v1_520 = some q) (hl : lv_has ls 2 [(0, .ref aB), (1, .int v1_520)]) (kt0 : ∀ (a : Int32), q = .inl a → ∀ (ls : Array Slot), lv_has ls 2 [(0, .ref aB), (1, .int a)] → W p l e (headSpec w_B_restIsFilling rm_B_restIsFilling).room s m ([.ref aB] : List Value).toArray below meth c s.heap [] 0 0 Qx (F0 m 37 ls [])) (kt1 : ∀ (a : Int32), q = .inr (a) → ∀ (ls : Array Slot), lv_has ls 2 [(0, .ref aB), (1, .int a)] → W p l e (headSpec w_B_restIsFilling rm_B_restIsFilling).room s m ([.ref aB] : List Value).toArray below meth c s.heap [] 0 0 Qx (F0 m 45 ls [])), W p l e (headSpec w_B_restIsFilling rm_B_restIsFilling).room s m ([.ref aB] : List Value).toArray below meth c s.heap [] 0 0 Qx (F0 m 21 ls []) := by
      intro Qx n
      induction n with
      | zero => intro v1_520 ls q hf; cases hf
      | succ n ih =>
        intro v1_520 ls q hf hl kt0 kt1
        rw [f_B_restIsFilling_21] at hf
        refine lv_iload_n hx hb d_B_restIsFilling_21 rfl (lv_at hl 1 rfl) ?_
        refine lv_aload_n hx hb d_B_restIsFilling_22 rfl (lv_at hl 0 rfl) ?_
        refine gf_B_24 (v := .int B_filled) hx hb hts hown hK hP hN_B rfl d_B_restIsFilling_23 ?_
        refine lv_icmp_ge (tgt := 45) hx hb d_B_restIsFilling_26 (by decide) (fun hc => ?_) (fun hc => ?_)
        · have hf := z_t hc hf
          obtain rfl := Option.some.inj hf
          exact kt1 _ rfl ls (lv_sub hl [0, 1] rfl)
        · have hf := z_f hc hf
          refine lv_aload_n hx hb d_B_restIsFilling_29 rfl (lv_at hl 0 rfl) ?_
          refine lv_iload_n hx hb d_B_restIsFilling_30 rfl (lv_at hl 1 rfl) ?_
          obtain ⟨q522, hc, hf⟩ := z_b hf
          refine vp_callSi (z_cr (va_runV (As := [.int v1_520]) (rest := []) ⟨hx, hb, hml, hown, hts⟩ (c_B_bitAt l dC dI cI cL v1_520 hN_B hN_BA q522 hc) (cw_B_35 hts ⟨Nat.le_of_ble_eq_true rfl, Nat.le_of_ble_eq_true rfl⟩) ⟨zbR, va_recv hK hP (ci := 6) rfl hN_B, (zpR hP hK hZ)⟩ rfl rfl hl.1 rfl (lv_room (Nat.le_of_ble_eq_true rfl)) d_B_restIsFilling_31 ⟨Nat.zero_le _, Nat.zero_le _⟩)) (fun r523 hv => ?_)
          have hv := hv.symm
          subst hv
          refine lv_if_eq (tgt := 39) hx hb d_B_restIsFilling_34 (by decide) (fun hc => ?_) (fun hc => ?_)
          · have hf := z_t hc hf
            refine lv_iinc (v := (v1_520 + 1)) (lv' := [(1, .int (v1_520 + 1)), (0, .ref aB)]) hx hb d_B_restIsFilling_39 hl (k := 1) rfl rfl (by decide) rfl (fun ls hl => ?_)
            refine lv_goto (tgt := 21) hx hb d_B_restIsFilling_42 (by decide) ?_
            exact ih (v1_520 + 1) ls _ hf (lv_sub hl [1, 0] rfl) kt0 kt1
          · have hf := z_f hc hf
            obtain rfl := Option.some.inj hf
            exact kt0 _ rfl ls (lv_sub hl [0, 1] rfl)
    obtain ⟨q519, hc, hf⟩ := z_b hf
    refine lp521 _ FU B_taken ls q519 hc (lv_sub hl [1, 0] rfl) (fun a ea ls hl => ?_) (fun a ea ls hl => ?_)
    · subst ea
      have hf := z_sl hf
      refine lv_iconst (v := 0) hx hb d_B_restIsFilling_37 (by decide) ?_
      obtain rfl := Option.some.inj hf
      exact W.zret (ty := .boolean) hx hb hr (by decide) (fun t ht hW => ⟨_, rfl, rfl, ht⟩) (fun q h => by cases h) d_B_restIsFilling_38
    · subst ea
      have hf := z_sr hf
      refine lv_iconst (v := 1) hx hb d_B_restIsFilling_45 (by decide) ?_
      obtain rfl := Option.some.inj hf
      exact W.zret (ty := .boolean) hx hb hr (by decide) (fun t ht hW => ⟨_, rfl, rfl, ht⟩) (fun q h => by cases h) d_B_restIsFilling_46
  · have hf := z_f hc hf
    refine lv_iconst (v := 0) hx hb d_B_restIsFilling_14 (by decide) ?_
    obtain rfl := Option.some.inj hf
    exact W.zret (ty := .boolean) hx hb hr (by decide) (fun t ht hW => ⟨_, rfl, rfl, ht⟩) (fun q h => by cases h) d_B_restIsFilling_15
