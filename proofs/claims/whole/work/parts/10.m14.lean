def f_F_decode_81 (p1 : Int32) (p2 : Int32) (N_side : Int32) (NA_n : Nat) (H_mostSide : Int32) (HA_n : Nat) (K_count : Int32) (KA_n : Nat) (KA_f : Nat → Int32) : Nat → Int32 → Int32 → (Nat → Int32) → Int32 → (Nat → Int32) → Int32 → Int32 → Int32 → Int32 → Int32 → Option (Int32 × Int32 × (Nat → Int32) × Int32 × (Nat → Int32) × Int32 × Int32 × Int32 × Int32 × Int32)
  | 0, _, _, _, _, _, _, _, _, _, _ => none
  | n + 1, v3, v4, NA_f, H_side, HA_f, V_left, V_top, V_start, V_stepAcross, V_stepDown => if p1 ≤ v4 then (some (v3, v4, NA_f, H_side, HA_f, V_left, V_top, V_start, V_stepAcross, V_stepDown)) else ((f_F_decodeRound p2 N_side NA_n NA_f H_mostSide H_side HA_n HA_f V_left V_top V_start V_stepAcross V_stepDown K_count KA_n KA_f).bind (fun q612 => f_F_decode_81 p1 p2 N_side NA_n H_mostSide HA_n K_count KA_n KA_f n q612.1 (v4 + 1) q612.2.1 q612.2.2.1 q612.2.2.2.1 q612.2.2.2.2.1 q612.2.2.2.2.2.1 q612.2.2.2.2.2.2.1 q612.2.2.2.2.2.2.2.1 q612.2.2.2.2.2.2.2.2))
def f_F_decode (x1 : Int32) (x2 : Int32) (O_side : Int32) (N_mostSide : Int32) (N_side : Int32) (NA_n : Nat) (NA_f : Nat → Int32) (H_mostSide : Int32) (H_side : Int32) (HA_n : Nat) (HA_f : Nat → Int32) (V_left : Int32) (V_top : Int32) (V_start : Int32) (V_stepAcross : Int32) (V_stepDown : Int32) (K_count : Int32) (KA_n : Nat) (KA_f : Nat → Int32) : Option (Nat ⊕ (Int32 × Int32 × (Nat → Int32) × Int32 × (Nat → Int32) × Int32 × Int32 × Int32 × Int32 × Int32)) := if x1 < (1 : Int32) then (some (.inl 2)) else (if x1 ≤ (40 : Int32) then (if x2 < 0 then (some (.inl 2)) else (if x2 ≤ (1 : Int32) then (if K_count = 0 then (some (.inl 3)) else ((f_G_become (O_side <<< (x2 &&& 31)) (128 : Int32) N_mostSide NA_n NA_f).bind (fun q611 => (f_F_decode_81 x1 x2 q611.1 NA_n H_mostSide HA_n K_count KA_n KA_f FU (0 : Int32) (0 : Int32) q611.2 H_side HA_f V_left V_top V_start V_stepAcross V_stepDown).bind (fun q613 => some (.inr (q613.1, q611.1, q613.2.2.1, q613.2.2.2.1, q613.2.2.2.2.1, q613.2.2.2.2.2.1, q613.2.2.2.2.2.2.1, q613.2.2.2.2.2.2.2.1, q613.2.2.2.2.2.2.2.2.1, q613.2.2.2.2.2.2.2.2.2)))))) else (some (.inl 2)))) else (some (.inl 2)))
set_option maxHeartbeats 4000000 in
set_option maxRecDepth 100000 in
theorem c_F_decode (l : Launch) (hfl : l.flags = pinnedFlags ++ [noTraceFlag]) (dC : Nat → ClassId) (dI : Nat → Nat → Nat) (cI cL : ClassId) {ws0 : va_W} (sz : Nat) {aO aP aN aH aV aS aK aT aC aI aNA aHA aKA : Nat} {O_side N_mostSide N_side H_mostSide H_side V_left V_top V_start V_stepAcross V_stepDown K_count : Int32} {NA_n HA_n KA_n : Nat} {NA_f HA_f KA_f : Nat → Int32} (x1 : Int32) (x2 : Int32) (hN_O : zA ws0 0 (aO, .inr (0, [.int O_side, .ref aP, .ref aN, .ref aH, .ref aV, .ref aS, .ref aK, .ref aT, .ref aC, .ref aI]))) (hN_N : zA ws0 3 (aN, .inr (1, [.int N_mostSide, .ref aNA, .int N_side]))) (hN_NA : zA ws0 4 (aNA, .inl (cI, NA_n, .inl NA_f))) (hN_H : zA ws0 5 (aH, .inr (1, [.int H_mostSide, .ref aHA, .int H_side]))) (hN_HA : zA ws0 6 (aHA, .inl (cI, HA_n, .inl HA_f))) (hN_V : zA ws0 7 (aV, .inr (2, [.ref aH, .int V_left, .int V_top, .int V_start, .int V_stepAcross, .int V_stepDown]))) (hN_K : zA ws0 14 (aK, .inr (5, [.ref aKA, .int K_count]))) (hN_KA : zA ws0 15 (aKA, .inl (cI, KA_n, .inl KA_f))) (r : Nat ⊕ (Int32 × Int32 × (Nat → Int32) × Int32 × (Nat → Int32) × Int32 × Int32 × Int32 × Int32 × Int32)) (hf : f_F_decode x1 x2 O_side N_mostSide N_side NA_n NA_f H_mostSide H_side HA_n HA_f V_left V_top V_start V_stepAcross V_stepDown K_count KA_n KA_f = some r) : MetT l y_F_decode w_F_decode rm_F_decode (va_Pc [.ref aO, .int x1, .int x2] (zMT dC dI cI cL ws0 sz)) (zX (fun (v : Int32) (ws' : va_W) => ∃ r1, r = .inr r1 ∧ v = r1.1 ∧ zA ws' 3 (aN, .inr (1, [.int N_mostSide, .ref aNA, .int r1.2.1])) ∧ zA ws' 4 (aNA, .inl (cI, NA_n, .inl r1.2.2.1)) ∧ zA ws' 5 (aH, .inr (1, [.int H_mostSide, .ref aHA, .int r1.2.2.2.1])) ∧ zA ws' 6 (aHA, .inl (cI, HA_n, .inl r1.2.2.2.2.1)) ∧ zA ws' 7 (aV, .inr (2, [.ref aH, .int r1.2.2.2.2.2.1, .int r1.2.2.2.2.2.2.1, .int r1.2.2.2.2.2.2.2.1, .int r1.2.2.2.2.2.2.2.2.1, .int r1.2.2.2.2.2.2.2.2.2])) ∧ ∀ (j : Nat), j ∉ ([3, 4, 5, 6, 7] : List Nat) → ws'[j]? = ws0[j]?) (fun k => r = .inl k) Value.int (zQ dC dI cI cL (va_A ws0 sz)) ws0 (va_A ws0 sz)) 1 6 (va_A ws0 sz) := by
  refine MetT.ofW (cc := b_F_decode) (maxL := 5) (ret := some .int) (by decide) rfl ?_
  intro p e s m args below meth c s₁ B hml hv
  obtain ⟨rfl, hsz, hP, hK, hZ, hD0, hX⟩ := hv
  have hx := B.exec
  have hb := B.bytes
  have hr := B.returns
  have hlocks := B.notSynchronized
  have hts : ∀ w ∈ BIG, w.before ([.ref aO, .int x1, .int x2] : List Value).toArray s = true := fun w h => atoms_spec (ws := w_F_decode) B.pre w (List.mem_cons_of_mem _ h)
  have hown : s.vm.findClass "FractalMaps" = some m.cls := findClass_of_methodNamed B.named
  have hout : c.exceptionTable.toList = [] := by simpa using B.noHandlers (atoms_spec (ws := w_F_decode) B.pre _ List.mem_cons_self)
  subst hsz
  have hD := hD0.self (sz := s.heap.size)
  generalize hAe : va_A ws0 s.heap.size = A at hD ⊢
  have hA : ∀ q : Nat, s.heap.size ≤ q → A q := fun q h => by rw [← hAe]; exact Or.inr h
  have hS : va_S A s.heap s.heap [] := va_S.rf
  have hw : ∀ (j : Nat), j ∉ ([3, 4, 5, 6, 7] : List Nat) → ws0[j]? = ws0[j]? := fun _ _ => rfl
  have hl := lv_entry ([.ref aO, .int x1, .int x2]) (n := 5) (Nat.le_of_ble_eq_true rfl)
  rw [lg_entry_eq]
  generalize (lg_sl ([.ref aO, .int x1, .int x2]) ++ List.replicate (5 - (lg_sl ([.ref aO, .int x1, .int x2])).length) Slot.unset).toArray = ls at hl ⊢
  have hl : lv_has ls 5 [(0, .ref aO), (1, .int x1), (2, .int x2)] := hl
  unfold f_F_decode at hf
  refine lv_iload_n hx hb d_F_decode_0 rfl (lv_at hl 1 rfl) ?_
  refine lv_iconst (v := 1) hx hb d_F_decode_1 (by decide) ?_
  refine lv_icmp_lt (tgt := 11) hx hb d_F_decode_2 (by decide) (fun hc => ?_) (fun hc => ?_)
  · have hf := z_t hc hf
    obtain rfl := Option.some.inj hf
    exact z_throw (own := "FractalMaps") (cls := "java/lang/IllegalArgumentException") (tx := "the rounds are 1 to 40") (names := exNames) (k := 2) hfl hx hb hml hl.1 hlocks hown hout hts hX hP hK hD hA (by decide +kernel) (by decide +kernel) oa_96 k_476 k_477 k_50 (by decide +kernel) rfl rfl d_F_decode_11 d_F_decode_14 d_F_decode_15 d_F_decode_17 d_F_decode_20 (Nat.le_of_ble_eq_true rfl) (Nat.le_of_ble_eq_true rfl) (Nat.le_of_ble_eq_true rfl) (Nat.le_of_ble_eq_true rfl)
  · have hf := z_f hc hf
    refine lv_iload_n hx hb d_F_decode_5 rfl (lv_at hl 1 rfl) ?_
    refine lv_bipush (v := 40) hx hb d_F_decode_6 (by decide) ?_
    refine lv_icmp_le (tgt := 21) hx hb d_F_decode_8 (by decide) (fun hc => ?_) (fun hc => ?_)
    · have hf := z_t hc hf
      refine lv_iload_n hx hb d_F_decode_21 rfl (lv_at hl 2 rfl) ?_
      refine lv_if_lt (tgt := 30) hx hb d_F_decode_22 (by decide) (fun hc => ?_) (fun hc => ?_)
      · have hf := z_t hc hf
        obtain rfl := Option.some.inj hf
        exact z_throw (own := "FractalMaps") (cls := "java/lang/IllegalArgumentException") (tx := "the size is 0 or 1") (names := exNames) (k := 2) hfl hx hb hml hl.1 hlocks hown hout hts hX hP hK hD hA (by decide +kernel) (by decide +kernel) oa_96 k_476 k_477 k_50 (by decide +kernel) rfl rfl d_F_decode_30 d_F_decode_33 d_F_decode_34 d_F_decode_36 d_F_decode_39 (Nat.le_of_ble_eq_true rfl) (Nat.le_of_ble_eq_true rfl) (Nat.le_of_ble_eq_true rfl) (Nat.le_of_ble_eq_true rfl)
      · have hf := z_f hc hf
        refine lv_iload_n hx hb d_F_decode_25 rfl (lv_at hl 2 rfl) ?_
        refine lv_iconst (v := 1) hx hb d_F_decode_26 (by decide) ?_
        refine lv_icmp_le (tgt := 40) hx hb d_F_decode_27 (by decide) (fun hc => ?_) (fun hc => ?_)
        · have hf := z_t hc hf
          refine lv_aload_n hx hb d_F_decode_40 rfl (lv_at hl 0 rfl) ?_
          refine gf_F_60 (v := .ref aK) hx hb hts hown hK hP hN_O rfl d_F_decode_41 ?_
          refine gf_F_136 (v := .int K_count) hx hb hts hown hK hZ hP hN_K rfl d_F_decode_44 ?_
          refine lv_if_ne (tgt := 60) hx hb d_F_decode_47 (by decide) (fun hc => ?_) (fun hc => ?_)
          · have hf := z_f hc hf
            refine lv_aload_n hx hb d_F_decode_60 rfl (lv_at hl 0 rfl) ?_
            refine gf_F_31 (v := .ref aN) hx hb hts hown hK hP hN_O rfl d_F_decode_61 ?_
            refine lv_aload_n hx hb d_F_decode_64 rfl (lv_at hl 0 rfl) ?_
            refine gf_F_16 (v := .int O_side) hx hb hts hown hK hP hN_O rfl d_F_decode_65 ?_
            refine lv_iload_n hx hb d_F_decode_68 rfl (lv_at hl 2 rfl) ?_
            refine lv_ishl hx hb d_F_decode_69 ?_
            refine lv_sipush (v := 128) hx hb d_F_decode_70 (by decide) ?_
            obtain ⟨q611, hc, hf⟩ := z_b hf
            have hFc := z_free hD hS hA
            refine va_callv (va_runV (As := [.int (O_side <<< (x2 &&& 31)), .int (128 : Int32)]) (rest := []) ⟨hx, hb, hml, hown, hts⟩ (c_G_become l dC dI cI cL _ (O_side <<< (x2 &&& 31)) (128 : Int32) hN_N hN_NA (by decide) q611 hc) (cw_F_177 hts ⟨Nat.le_of_ble_eq_true rfl, Nat.le_of_ble_eq_true rfl⟩) ⟨zbM, va_recv hK hP (ci := 1) rfl hN_N, (zpM hP hK hZ hD)⟩ rfl rfl hl.1 rfl (lv_room (Nat.le_of_ble_eq_true rfl)) d_F_decode_73 ⟨Nat.zero_le _, Nat.zero_le _⟩) hS (fun q _ h => hFc q h) hFc (fun ws t H locs ht hvm hu hB hz1 hk1 hS => ?_)
            obtain ⟨hN_N, hN_NA, hfr⟩ := hu
            obtain ⟨hP, -, hD1⟩ := hB
            rw [ht] at hP
            have hD := hD1.weaken (fun _ _ _ h => hFc _ h)
            have hN_N : zA ws 3 (aN, .inr (1, [.int N_mostSide, .ref aNA, .int q611.1])) := hN_N
            have hN_NA : zA ws 4 (aNA, .inl (cI, NA_n, .inl q611.2)) := hN_NA
            have hN_O := (hfr _ (by decide)).trans hN_O
            have hN_H := (hfr _ (by decide)).trans hN_H
            have hN_HA := (hfr _ (by decide)).trans hN_HA
            have hN_V := (hfr _ (by decide)).trans hN_V
            have hN_K := (hfr _ (by decide)).trans hN_K
            have hN_KA := (hfr _ (by decide)).trans hN_KA
            have hw := z_frC (by decide) hw hfr
            refine lv_iconst (v := 0) hx hb d_F_decode_76 (by decide) ?_
            refine lv_istore_n (lv' := [(3, .int (0 : Int32)), (0, .ref aO), (1, .int x1), (2, .int x2)]) hx hb d_F_decode_77 rfl hl (by decide) rfl (fun ls hl => ?_)
            refine lv_iconst (v := 0) hx hb d_F_decode_78 (by decide) ?_
            refine lv_istore (lv' := [(4, .int (0 : Int32)), (3, .int (0 : Int32)), (0, .ref aO), (1, .int x1), (2, .int x2)]) hx hb d_F_decode_79 hl (by decide) rfl (fun ls hl => ?_)
            have lp624 : ∀ (Qx : State → Prop) (n : Nat) (v3_614 : Int32) (v4_615 : Int32) (NA_f_616 : Nat → Int32) (H_side_617 : Int32) (HA_f_618 : Nat → Int32) (V_left_619 : Int32) (V_top_620 : Int32) (V_start_621 : Int32) (V_stepAcross_622 : Int32) (V_stepDown_623 : Int32) (ws : va_W) (H : Heap) (locs : List Loc) (ls : Array Slot) (q : Int32 × Int32 × (Nat → Int32) × Int32 × (Nat → Int32) × Int32 × Int32 × Int32 × Int32 × Int32) (hf : f_F_decode_81 x1 x2 q611.1 NA_n H_mostSide HA_n K_count KA_n KA_f n v3_614 v4_615 NA_f_616 H_side_617 HA_f_618 V_left_619 V_top_620 V_start_621 V_stepAcross_622 V_stepDown_623 = some q) (hl : lv_has ls 5 [(0, .ref aO), (1, .int x1), (2, .int x2), (3, .int v3_614), (4, .int v4_615)]) (hP : va_P (dC, dI) classes ws H) (hD : va_D A ws) (hS : va_S A s.heap H locs) (hN_O : zA ws 0 (aO, .inr (0, [.int O_side, .ref aP, .ref aN, .ref aH, .ref aV, .ref aS, .ref aK, .ref aT, .ref aC, .ref aI]))) (hN_N : zA ws 3 (aN, .inr (1, [.int N_mostSide, .ref aNA, .int q611.1]))) (hN_NA : zA ws 4 (aNA, .inl (cI, NA_n, .inl NA_f_616))) (hN_H : zA ws 5 (aH, .inr (1, [.int H_mostSide, .ref aHA, .int H_side_617]))) (hN_HA : zA ws 6 (aHA, .inl (cI, HA_n, .inl HA_f_618))) (hN_V : zA ws 7 (aV, .inr (2, [.ref aH, .int V_left_619, .int V_top_620, .int V_start_621, .int V_stepAcross_622, .int V_stepDown_623]))) (hN_K : zA ws 14 (aK, .inr (5, [.ref aKA, .int K_count]))) (hN_KA : zA ws 15 (aKA, .inl (cI, KA_n, .inl KA_f))) (hw : ∀ (j : Nat), j ∉ ([3, 4, 5, 6, 7] : List Nat) → ws[j]? = ws0[j]?) (kt0 : ∀ (ws : va_W) (H : Heap) (locs : List Loc) (ls : Array Slot), lv_has ls 5 [(0, .ref aO), (1, .int x1), (2, .int x2), (3, .int q.1), (4, .int q.2.1)] → (va_P (dC, dI) classes ws H) → (va_D A ws) → (va_S A s.heap H locs) → (zA ws 0 (aO, .inr (0, [.int O_side, .ref aP, .ref aN, .ref aH, .ref aV, .ref aS, .ref aK, .ref aT, .ref aC, .ref aI]))) → (zA ws 3 (aN, .inr (1, [.int N_mostSide, .ref aNA, .int q611.1]))) → (zA ws 4 (aNA, .inl (cI, NA_n, .inl q.2.2.1))) → (zA ws 5 (aH, .inr (1, [.int H_mostSide, .ref aHA, .int q.2.2.2.1]))) → (zA ws 6 (aHA, .inl (cI, HA_n, .inl q.2.2.2.2.1))) → (zA ws 7 (aV, .inr (2, [.ref aH, .int q.2.2.2.2.2.1, .int q.2.2.2.2.2.2.1, .int q.2.2.2.2.2.2.2.1, .int q.2.2.2.2.2.2.2.2.1, .int q.2.2.2.2.2.2.2.2.2]))) → (zA ws 14 (aK, .inr (5, [.ref aKA, .int K_count]))) → (zA ws 15 (aKA, .inl (cI, KA_n, .inl KA_f))) → (∀ (j : Nat), j ∉ ([3, 4, 5, 6, 7] : List Nat) → ws[j]? = ws0[j]?) → W p l e (headSpec w_F_decode rm_F_decode).room s m ([.ref aO, .int x1, .int x2] : List Value).toArray below meth c H locs 0 0 Qx (F0 m 99 ls [])), W p l e (headSpec w_F_decode rm_F_decode).room s m ([.ref aO, .int x1, .int x2] : List Value).toArray below meth c H locs 0 0 Qx (F0 m 81 ls []) := by
              intro Qx n
              induction n with
              | zero => intro v3_614 v4_615 NA_f_616 H_side_617 HA_f_618 V_left_619 V_top_620 V_start_621 V_stepAcross_622 V_stepDown_623 ws H locs ls q hf; cases hf
              | succ n ih =>
                intro v3_614 v4_615 NA_f_616 H_side_617 HA_f_618 V_left_619 V_top_620 V_start_621 V_stepAcross_622 V_stepDown_623 ws H locs ls q hf hl hP hD hS hN_O hN_N hN_NA hN_H hN_HA hN_V hN_K hN_KA hw kt0
                rw [f_F_decode_81] at hf
                refine lv_iload hx hb d_F_decode_81 (lv_at hl 4 rfl) ?_
                refine lv_iload_n hx hb d_F_decode_83 rfl (lv_at hl 1 rfl) ?_
                refine lv_icmp_ge (tgt := 99) hx hb d_F_decode_84 (by decide) (fun hc => ?_) (fun hc => ?_)
                · have hf := z_t hc hf
                  obtain rfl := Option.some.inj hf
                  exact kt0 _ _ _ ls (lv_sub hl [0, 1, 2, 3, 4] rfl) hP hD hS hN_O hN_N hN_NA hN_H hN_HA hN_V hN_K hN_KA hw
                · have hf := z_f hc hf
                  refine lv_aload_n hx hb d_F_decode_87 rfl (lv_at hl 0 rfl) ?_
                  refine lv_iload_n hx hb d_F_decode_88 rfl (lv_at hl 2 rfl) ?_
                  obtain ⟨q625, hc, hf⟩ := z_b hf
                  have hFc := z_free hD hS hA
                  refine va_calli (va_runV (As := [.int x2]) (rest := []) ⟨hx, hb, hml, hown, hts⟩ (c_F_decodeRound l dC dI cI cL _ x2 hN_O hN_N hN_NA hN_H hN_HA hN_V hN_K hN_KA q625 hc) (cw_F_180 hts ⟨Nat.le_of_ble_eq_true rfl, Nat.le_of_ble_eq_true rfl⟩) ⟨zbM, va_recv hK hP (ci := 0) rfl hN_O, (zpM hP hK hZ hD)⟩ rfl rfl hl.1 rfl (lv_room (Nat.le_of_ble_eq_true rfl)) d_F_decode_89 ⟨Nat.zero_le _, Nat.zero_le _⟩) hS (fun q _ h => hFc q h) hFc (fun rv ws t H locs ht hvm hu hB hz1 hk1 hS => ?_)
                  obtain ⟨hv, hN_NA, hN_H, hN_HA, hN_V, hfr⟩ := hu
                  subst hv
                  obtain ⟨hP, -, hD1⟩ := hB
                  rw [ht] at hP
                  have hD := hD1.weaken (fun _ _ _ h => hFc _ h)
                  have hN_NA : zA ws 4 (aNA, .inl (cI, NA_n, .inl q625.2.1)) := hN_NA
                  have hN_H : zA ws 5 (aH, .inr (1, [.int H_mostSide, .ref aHA, .int q625.2.2.1])) := hN_H
                  have hN_HA : zA ws 6 (aHA, .inl (cI, HA_n, .inl q625.2.2.2.1)) := hN_HA
                  have hN_V : zA ws 7 (aV, .inr (2, [.ref aH, .int q625.2.2.2.2.1, .int q625.2.2.2.2.2.1, .int q625.2.2.2.2.2.2.1, .int q625.2.2.2.2.2.2.2.1, .int q625.2.2.2.2.2.2.2.2])) := hN_V
                  have hN_O := (hfr _ (by decide)).trans hN_O
                  have hN_N := (hfr _ (by decide)).trans hN_N
                  have hN_K := (hfr _ (by decide)).trans hN_K
                  have hN_KA := (hfr _ (by decide)).trans hN_KA
                  have hw := z_frC (by decide) hw hfr
                  refine lv_istore_n (lv' := [(3, .int q625.1), (0, .ref aO), (1, .int x1), (2, .int x2), (4, .int v4_615)]) hx hb d_F_decode_92 rfl hl (by decide) rfl (fun ls hl => ?_)
                  refine lv_iinc (v := (v4_615 + 1)) (lv' := [(4, .int (v4_615 + 1)), (3, .int q625.1), (0, .ref aO), (1, .int x1), (2, .int x2)]) hx hb d_F_decode_93 hl (k := 4) rfl rfl (by decide) rfl (fun ls hl => ?_)
                  refine lv_goto (tgt := 81) hx hb d_F_decode_96 (by decide) ?_
                  exact ih q625.1 (v4_615 + 1) q625.2.1 q625.2.2.1 q625.2.2.2.1 q625.2.2.2.2.1 q625.2.2.2.2.2.1 q625.2.2.2.2.2.2.1 q625.2.2.2.2.2.2.2.1 q625.2.2.2.2.2.2.2.2 _ _ _ ls _ hf (lv_sub hl [2, 3, 4, 1, 0] rfl) hP hD hS hN_O hN_N hN_NA hN_H hN_HA hN_V hN_K hN_KA hw kt0
            obtain ⟨q613, hc, hf⟩ := z_b hf
            refine lp624 _ FU (0 : Int32) (0 : Int32) q611.2 H_side HA_f V_left V_top V_start V_stepAcross V_stepDown _ _ _ ls q613 hc (lv_sub hl [2, 3, 4, 1, 0] rfl) hP hD hS hN_O hN_N hN_NA hN_H hN_HA hN_V hN_K hN_KA hw (fun ws H locs ls hl hP hD hS hN_O hN_N hN_NA hN_H hN_HA hN_V hN_K hN_KA hw => ?_)
            refine lv_iload_n hx hb d_F_decode_99 rfl (lv_at hl 3 rfl) ?_
            obtain rfl := Option.some.inj hf
            exact z_iretT hx hb hr hlocks (fun t ht hW => ⟨Or.inl ⟨_, ws, rfl, ⟨_, rfl, (by dsimp only; exact ⟨rfl, hN_N, hN_NA, hN_H, hN_HA, hN_V, hw⟩)⟩, by rw [ht]; exact hP, va_K.moved hW.alike hK, hD⟩, hS.F ht⟩) hS.2.2 d_F_decode_100 (Nat.zero_le _) (Nat.zero_le _)
          · have hf := z_t hc hf
            obtain rfl := Option.some.inj hf
            exact z_throw (own := "FractalMaps") (cls := "java/lang/IllegalStateException") (tx := "there are no blocks") (names := exNames) (k := 3) hfl hx hb hml hl.1 hlocks hown hout hts hX hP hK hD hA (by decide +kernel) (by decide +kernel) oa_176 k_682 k_683 k_52 (by decide +kernel) rfl rfl d_F_decode_50 d_F_decode_53 d_F_decode_54 d_F_decode_56 d_F_decode_59 (Nat.le_of_ble_eq_true rfl) (Nat.le_of_ble_eq_true rfl) (Nat.le_of_ble_eq_true rfl) (Nat.le_of_ble_eq_true rfl)
        · have hf := z_f hc hf
          obtain rfl := Option.some.inj hf
          exact z_throw (own := "FractalMaps") (cls := "java/lang/IllegalArgumentException") (tx := "the size is 0 or 1") (names := exNames) (k := 2) hfl hx hb hml hl.1 hlocks hown hout hts hX hP hK hD hA (by decide +kernel) (by decide +kernel) oa_96 k_476 k_477 k_50 (by decide +kernel) rfl rfl d_F_decode_30 d_F_decode_33 d_F_decode_34 d_F_decode_36 d_F_decode_39 (Nat.le_of_ble_eq_true rfl) (Nat.le_of_ble_eq_true rfl) (Nat.le_of_ble_eq_true rfl) (Nat.le_of_ble_eq_true rfl)
    · have hf := z_f hc hf
      obtain rfl := Option.some.inj hf
      exact z_throw (own := "FractalMaps") (cls := "java/lang/IllegalArgumentException") (tx := "the rounds are 1 to 40") (names := exNames) (k := 2) hfl hx hb hml hl.1 hlocks hown hout hts hX hP hK hD hA (by decide +kernel) (by decide +kernel) oa_96 k_476 k_477 k_50 (by decide +kernel) rfl rfl d_F_decode_11 d_F_decode_14 d_F_decode_15 d_F_decode_17 d_F_decode_20 (Nat.le_of_ble_eq_true rfl) (Nat.le_of_ble_eq_true rfl) (Nat.le_of_ble_eq_true rfl) (Nat.le_of_ble_eq_true rfl)
def f_F_told (x1 : Int32) (O_side : Int32) (N_side : Int32) (K_count : Int32) (C_filled : Int32) (I_filled : Int32) : Option (Int32) := if x1 = (0 : Int32) then (some O_side) else (if x1 = (1 : Int32) then (some K_count) else (if x1 = (2 : Int32) then ((f_B_bytes C_filled).bind (fun q626 => some q626)) else (if x1 = (3 : Int32) then ((f_B_bytes I_filled).bind (fun q628 => some q628)) else (if x1 = (4 : Int32) then (some N_side) else (some ((-1) : Int32))))))
set_option maxHeartbeats 4000000 in
set_option maxRecDepth 100000 in
theorem c_F_told (l : Launch) (dC : Nat → ClassId) (dI : Nat → Nat → Nat) (cI cL : ClassId) {ws : va_W} {aO aP aN aH aV aS aK aT aC aI aNA aKA aCA aIA : Nat} {O_side N_mostSide N_side K_count C_filled C_taken I_filled I_taken : Int32} (x1 : Int32) (hN_O : zA ws 0 (aO, .inr (0, [.int O_side, .ref aP, .ref aN, .ref aH, .ref aV, .ref aS, .ref aK, .ref aT, .ref aC, .ref aI]))) (hN_N : zA ws 3 (aN, .inr (1, [.int N_mostSide, .ref aNA, .int N_side]))) (hN_K : zA ws 14 (aK, .inr (5, [.ref aKA, .int K_count]))) (hN_C : zA ws 17 (aC, .inr (6, [.ref aCA, .int C_filled, .int C_taken]))) (hN_I : zA ws 19 (aI, .inr (6, [.ref aIA, .int I_filled, .int I_taken]))) (r : Int32) (hf : f_F_told x1 O_side N_side K_count C_filled I_filled = some r) : Met l y_F_told w_F_told rm_F_told (va_Pc [.ref aO, .int x1] (zR dC dI cI cL ws)) (vp_Si (fun v => v = r)) 0 0 (fun _ => False) := by
  refine Met.ofW (cc := b_F_told) (maxL := 2) (ret := some .int) (by decide) rfl ?_
  intro p e s m args below meth c s₁ B hml hv
  obtain ⟨rfl, hP, hK, hZ⟩ := hv
  have hx := B.exec
  have hb := B.bytes
  have hr := B.returns
  have hlocks := B.notSynchronized
  have hts : ∀ w ∈ BIG, w.before ([.ref aO, .int x1] : List Value).toArray s = true := fun w h => atoms_spec (ws := w_F_told) B.pre w (List.mem_cons_of_mem _ h)
  have hown : s.vm.findClass "FractalMaps" = some m.cls := findClass_of_methodNamed B.named
  have hl := lv_entry ([.ref aO, .int x1]) (n := 2) (Nat.le_of_ble_eq_true rfl)
  rw [lg_entry_eq]
  generalize (lg_sl ([.ref aO, .int x1]) ++ List.replicate (2 - (lg_sl ([.ref aO, .int x1])).length) Slot.unset).toArray = ls at hl ⊢
  have hl : lv_has ls 2 [(0, .ref aO), (1, .int x1)] := hl
  unfold f_F_told at hf
  refine lv_iload_n hx hb d_F_told_0 rfl (lv_at hl 1 rfl) ?_
  by_cases hc_0 : x1 = (0 : Int32)
  · have hf := z_t hc_0 hf
    refine lv_tableIn (tgt := 36) hx hb d_F_told_1 (by rw [hc_0]; decide) (by rw [hc_0]; decide) (by rw [hc_0]; rfl) (by decide) ?_
    refine lv_aload_n hx hb d_F_told_36 rfl (lv_at hl 0 rfl) ?_
    refine gf_F_16 (v := .int O_side) hx hb hts hown hK hP hN_O rfl d_F_told_37 ?_
    obtain rfl := Option.some.inj hf
    exact W.iret hx hb hr (fun t ht hW => ⟨_, rfl, rfl, ht⟩) (fun q h => by cases h) d_F_told_40
  have hf := z_f hc_0 hf
  have he_0 : x1.toInt ≠ 0 := fun h => hc_0 (Int32.toInt_inj.mp (h.trans (by decide)))
  by_cases hc_1 : x1 = (1 : Int32)
  · have hf := z_t hc_1 hf
    refine lv_tableIn (tgt := 41) hx hb d_F_told_1 (by rw [hc_1]; decide) (by rw [hc_1]; decide) (by rw [hc_1]; rfl) (by decide) ?_
    refine lv_aload_n hx hb d_F_told_41 rfl (lv_at hl 0 rfl) ?_
    refine gf_F_60 (v := .ref aK) hx hb hts hown hK hP hN_O rfl d_F_told_42 ?_
    refine gf_F_136 (v := .int K_count) hx hb hts hown hK hZ hP hN_K rfl d_F_told_45 ?_
    obtain rfl := Option.some.inj hf
    exact W.iret hx hb hr (fun t ht hW => ⟨_, rfl, rfl, ht⟩) (fun q h => by cases h) d_F_told_48
  have hf := z_f hc_1 hf
  have he_1 : x1.toInt ≠ 1 := fun h => hc_1 (Int32.toInt_inj.mp (h.trans (by decide)))
  by_cases hc_2 : x1 = (2 : Int32)
  · have hf := z_t hc_2 hf
    refine lv_tableIn (tgt := 49) hx hb d_F_told_1 (by rw [hc_2]; decide) (by rw [hc_2]; decide) (by rw [hc_2]; rfl) (by decide) ?_
    refine lv_aload_n hx hb d_F_told_49 rfl (lv_at hl 0 rfl) ?_
    refine gf_F_74 (v := .ref aC) hx hb hts hown hK hP hN_O rfl d_F_told_50 ?_
    obtain ⟨q626, hc, hf⟩ := z_b hf
    refine vp_callSi (z_cr (va_runV (As := []) (rest := []) ⟨hx, hb, hml, hown, hts⟩ (c_B_bytes l dC dI cI cL hN_C q626 hc) (cw_F_146 hts ⟨Nat.le_of_ble_eq_true rfl, Nat.le_of_ble_eq_true rfl⟩) ⟨zbR, va_recv hK hP (ci := 6) rfl hN_C, (zpR hP hK hZ)⟩ rfl rfl hl.1 rfl (lv_room (Nat.le_of_ble_eq_true rfl)) d_F_told_53 ⟨Nat.zero_le _, Nat.zero_le _⟩)) (fun r627 hv => ?_)
    have hv := hv.symm
    subst hv
    obtain rfl := Option.some.inj hf
    exact W.iret hx hb hr (fun t ht hW => ⟨_, rfl, rfl, ht⟩) (fun q h => by cases h) d_F_told_56
  have hf := z_f hc_2 hf
  have he_2 : x1.toInt ≠ 2 := fun h => hc_2 (Int32.toInt_inj.mp (h.trans (by decide)))
  by_cases hc_3 : x1 = (3 : Int32)
  · have hf := z_t hc_3 hf
    refine lv_tableIn (tgt := 57) hx hb d_F_told_1 (by rw [hc_3]; decide) (by rw [hc_3]; decide) (by rw [hc_3]; rfl) (by decide) ?_
    refine lv_aload_n hx hb d_F_told_57 rfl (lv_at hl 0 rfl) ?_
    refine gf_F_78 (v := .ref aI) hx hb hts hown hK hP hN_O rfl d_F_told_58 ?_
    obtain ⟨q628, hc, hf⟩ := z_b hf
    refine vp_callSi (z_cr (va_runV (As := []) (rest := []) ⟨hx, hb, hml, hown, hts⟩ (c_B_bytes l dC dI cI cL hN_I q628 hc) (cw_F_146 hts ⟨Nat.le_of_ble_eq_true rfl, Nat.le_of_ble_eq_true rfl⟩) ⟨zbR, va_recv hK hP (ci := 6) rfl hN_I, (zpR hP hK hZ)⟩ rfl rfl hl.1 rfl (lv_room (Nat.le_of_ble_eq_true rfl)) d_F_told_61 ⟨Nat.zero_le _, Nat.zero_le _⟩)) (fun r629 hv => ?_)
    have hv := hv.symm
    subst hv
    obtain rfl := Option.some.inj hf
    exact W.iret hx hb hr (fun t ht hW => ⟨_, rfl, rfl, ht⟩) (fun q h => by cases h) d_F_told_64
  have hf := z_f hc_3 hf
  have he_3 : x1.toInt ≠ 3 := fun h => hc_3 (Int32.toInt_inj.mp (h.trans (by decide)))
  by_cases hc_4 : x1 = (4 : Int32)
  · have hf := z_t hc_4 hf
    refine lv_tableIn (tgt := 65) hx hb d_F_told_1 (by rw [hc_4]; decide) (by rw [hc_4]; decide) (by rw [hc_4]; rfl) (by decide) ?_
    refine lv_aload_n hx hb d_F_told_65 rfl (lv_at hl 0 rfl) ?_
    refine gf_F_31 (v := .ref aN) hx hb hts hown hK hP hN_O rfl d_F_told_66 ?_
    refine gf_F_185 (v := .int N_side) hx hb hts hown hK hZ hP hN_N rfl d_F_told_69 ?_
    obtain rfl := Option.some.inj hf
    exact W.iret hx hb hr (fun t ht hW => ⟨_, rfl, rfl, ht⟩) (fun q h => by cases h) d_F_told_72
  have hf := z_f hc_4 hf
  have he_4 : x1.toInt ≠ 4 := fun h => hc_4 (Int32.toInt_inj.mp (h.trans (by decide)))
  refine lv_tableOut (tgt := 73) hx hb d_F_told_1 (by omega) (by decide) ?_
  refine lv_iconst (v := (-1)) hx hb d_F_told_73 (by decide) ?_
  obtain rfl := Option.some.inj hf
  exact W.iret hx hb hr (fun t ht hW => ⟨_, rfl, rfl, ht⟩) (fun q h => by cases h) d_F_told_74
def f_F_tried (S_tried : Int32) : Option (Int32) := some S_tried
set_option maxHeartbeats 4000000 in
set_option maxRecDepth 100000 in
theorem c_F_tried (l : Launch) (dC : Nat → ClassId) (dI : Nat → Nat → Nat) (cI cL : ClassId) {ws : va_W} {aO aP aN aH aV aS aK aT aC aI aW aD aQ aR aE : Nat} {O_side S_tried S_size S_count S_wantedSum S_foundSum S_foundSquares : Int32} (hN_O : zA ws 0 (aO, .inr (0, [.int O_side, .ref aP, .ref aN, .ref aH, .ref aV, .ref aS, .ref aK, .ref aT, .ref aC, .ref aI]))) (hN_S : zA ws 8 (aS, .inr (3, [.ref aP, .ref aH, .ref aV, .ref aW, .ref aD, .ref aQ, .ref aR, .ref aE, .int S_tried, .int S_size, .int S_count, .int S_wantedSum, .int S_foundSum, .int S_foundSquares]))) (r : Int32) (hf : f_F_tried S_tried = some r) : Met l y_F_tried w_F_tried rm_F_tried (va_Pc [.ref aO] (zR dC dI cI cL ws)) (vp_Si (fun v => v = r)) 0 0 (fun _ => False) := by
  refine Met.ofW (cc := b_F_tried) (maxL := 1) (ret := some .int) (by decide) rfl ?_
  intro p e s m args below meth c s₁ B hml hv
  obtain ⟨rfl, hP, hK, hZ⟩ := hv
  have hx := B.exec
  have hb := B.bytes
  have hr := B.returns
  have hlocks := B.notSynchronized
  have hts : ∀ w ∈ BIG, w.before ([.ref aO] : List Value).toArray s = true := fun w h => atoms_spec (ws := w_F_tried) B.pre w (List.mem_cons_of_mem _ h)
  have hown : s.vm.findClass "FractalMaps" = some m.cls := findClass_of_methodNamed B.named
  have hl := lv_entry ([.ref aO]) (n := 1) (Nat.le_of_ble_eq_true rfl)
  rw [lg_entry_eq]
  generalize (lg_sl ([.ref aO]) ++ List.replicate (1 - (lg_sl ([.ref aO])).length) Slot.unset).toArray = ls at hl ⊢
  have hl : lv_has ls 1 [(0, .ref aO)] := hl
  unfold f_F_tried at hf
  refine lv_aload_n hx hb d_F_tried_0 rfl (lv_at hl 0 rfl) ?_
  refine gf_F_51 (v := .ref aS) hx hb hts hown hK hP hN_O rfl d_F_tried_1 ?_
  refine gf_F_212 (v := .int S_tried) hx hb hts hown hK hZ hP hN_S rfl d_F_tried_4 ?_
  obtain rfl := Option.some.inj hf
  exact W.iret hx hb hr (fun t ht hW => ⟨_, rfl, rfl, ht⟩) (fun q h => by cases h) d_F_tried_7
def f_F_clear (O_side : Int32) (P_mostSide : Int32) (PA_n : Nat) (PA_f : Nat → Int32) (N_mostSide : Int32) (NA_n : Nat) (NA_f : Nat → Int32) : Option (Int32 × (Nat → Int32) × Int32 × (Nat → Int32) × Int32 × Int32 × Int32 × Int32 × Int32 × Int32) := (f_G_become O_side (0 : Int32) P_mostSide PA_n PA_f).bind (fun q630 => (f_G_become (0 : Int32) (0 : Int32) N_mostSide NA_n NA_f).bind (fun q631 => (f_K_wipe).bind (fun q632 => (f_B_wipe).bind (fun q633 => (f_B_wipe).bind (fun q634 => some (q630.1, q630.2, q631.1, q631.2, (0 : Int32), q632, q633.1, q633.2, q634.1, q634.2))))))
set_option maxHeartbeats 4000000 in
set_option maxRecDepth 100000 in
theorem c_F_clear (l : Launch) (dC : Nat → ClassId) (dI : Nat → Nat → Nat) (cI cL : ClassId) {ws0 : va_W} (sz : Nat) {aO aP aN aH aV aS aK aT aC aI aPA aNA aW aD aQ aR aE aKA aCA aIA : Nat} {O_side P_mostSide P_side N_mostSide N_side S_tried S_size S_count S_wantedSum S_foundSum S_foundSquares K_count C_filled C_taken I_filled I_taken : Int32} {PA_n NA_n : Nat} {PA_f NA_f : Nat → Int32} (hN_O : zA ws0 0 (aO, .inr (0, [.int O_side, .ref aP, .ref aN, .ref aH, .ref aV, .ref aS, .ref aK, .ref aT, .ref aC, .ref aI]))) (hN_P : zA ws0 1 (aP, .inr (1, [.int P_mostSide, .ref aPA, .int P_side]))) (hN_PA : zA ws0 2 (aPA, .inl (cI, PA_n, .inl PA_f))) (hN_N : zA ws0 3 (aN, .inr (1, [.int N_mostSide, .ref aNA, .int N_side]))) (hN_NA : zA ws0 4 (aNA, .inl (cI, NA_n, .inl NA_f))) (hN_S : zA ws0 8 (aS, .inr (3, [.ref aP, .ref aH, .ref aV, .ref aW, .ref aD, .ref aQ, .ref aR, .ref aE, .int S_tried, .int S_size, .int S_count, .int S_wantedSum, .int S_foundSum, .int S_foundSquares]))) (hN_K : zA ws0 14 (aK, .inr (5, [.ref aKA, .int K_count]))) (hN_C : zA ws0 17 (aC, .inr (6, [.ref aCA, .int C_filled, .int C_taken]))) (hN_I : zA ws0 19 (aI, .inr (6, [.ref aIA, .int I_filled, .int I_taken]))) (r : Int32 × (Nat → Int32) × Int32 × (Nat → Int32) × Int32 × Int32 × Int32 × Int32 × Int32 × Int32) (hf : f_F_clear O_side P_mostSide PA_n PA_f N_mostSide NA_n NA_f = some r) : Met l y_F_clear w_F_clear rm_F_clear (va_Pc [.ref aO] (zM dC dI cI cL ws0 sz)) (va_Qv (fun ws' : va_W => zA ws' 1 (aP, .inr (1, [.int P_mostSide, .ref aPA, .int r.1])) ∧ zA ws' 2 (aPA, .inl (cI, PA_n, .inl r.2.1)) ∧ zA ws' 3 (aN, .inr (1, [.int N_mostSide, .ref aNA, .int r.2.2.1])) ∧ zA ws' 4 (aNA, .inl (cI, NA_n, .inl r.2.2.2.1)) ∧ zA ws' 8 (aS, .inr (3, [.ref aP, .ref aH, .ref aV, .ref aW, .ref aD, .ref aQ, .ref aR, .ref aE, .int r.2.2.2.2.1, .int S_size, .int S_count, .int S_wantedSum, .int S_foundSum, .int S_foundSquares])) ∧ zA ws' 14 (aK, .inr (5, [.ref aKA, .int r.2.2.2.2.2.1])) ∧ zA ws' 17 (aC, .inr (6, [.ref aCA, .int r.2.2.2.2.2.2.1, .int r.2.2.2.2.2.2.2.1])) ∧ zA ws' 19 (aI, .inr (6, [.ref aIA, .int r.2.2.2.2.2.2.2.2.1, .int r.2.2.2.2.2.2.2.2.2])) ∧ ∀ (j : Nat), j ∉ ([1, 2, 3, 4, 8, 14, 17, 19] : List Nat) → ws'[j]? = ws0[j]?) (zQ dC dI cI cL (va_A ws0 sz)) (va_A ws0 sz)) 0 0 (va_A ws0 sz) := by
  refine Met.ofW (cc := b_F_clear) (maxL := 1) (ret := none) (by decide) rfl ?_
  intro p e s m args below meth c s₁ B hml hv
  obtain ⟨rfl, hsz, hP, hK, hZ, hD0⟩ := hv
  have hx := B.exec
  have hb := B.bytes
  have hr := B.returns
  have hlocks := B.notSynchronized
  have hts : ∀ w ∈ BIG, w.before ([.ref aO] : List Value).toArray s = true := fun w h => atoms_spec (ws := w_F_clear) B.pre w (List.mem_cons_of_mem _ h)
  have hown : s.vm.findClass "FractalMaps" = some m.cls := findClass_of_methodNamed B.named
  subst hsz
  have hD := hD0.self (sz := s.heap.size)
  generalize hAe : va_A ws0 s.heap.size = A at hD ⊢
  have hA : ∀ q : Nat, s.heap.size ≤ q → A q := fun q h => by rw [← hAe]; exact Or.inr h
  have hS : va_S A s.heap s.heap [] := va_S.rf
  have hw : ∀ (j : Nat), j ∉ ([1, 2, 3, 4, 8, 14, 17, 19] : List Nat) → ws0[j]? = ws0[j]? := fun _ _ => rfl
  have hl := lv_entry ([.ref aO]) (n := 1) (Nat.le_of_ble_eq_true rfl)
  rw [lg_entry_eq]
  generalize (lg_sl ([.ref aO]) ++ List.replicate (1 - (lg_sl ([.ref aO])).length) Slot.unset).toArray = ls at hl ⊢
  have hl : lv_has ls 1 [(0, .ref aO)] := hl
  unfold f_F_clear at hf
  refine lv_aload_n hx hb d_F_clear_0 rfl (lv_at hl 0 rfl) ?_
  refine gf_F_27 (v := .ref aP) hx hb hts hown hK hP hN_O rfl d_F_clear_1 ?_
  refine lv_aload_n hx hb d_F_clear_4 rfl (lv_at hl 0 rfl) ?_
  refine gf_F_16 (v := .int O_side) hx hb hts hown hK hP hN_O rfl d_F_clear_5 ?_
  refine lv_iconst (v := 0) hx hb d_F_clear_8 (by decide) ?_
  obtain ⟨q630, hc, hf⟩ := z_b hf
  have hFc := z_free hD hS hA
  refine va_callv (va_runV (As := [.int O_side, .int (0 : Int32)]) (rest := []) ⟨hx, hb, hml, hown, hts⟩ (c_G_become l dC dI cI cL _ O_side (0 : Int32) hN_P hN_PA (by decide) q630 hc) (cw_F_177 hts ⟨Nat.le_of_ble_eq_true rfl, Nat.le_of_ble_eq_true rfl⟩) ⟨zbM, va_recv hK hP (ci := 1) rfl hN_P, (zpM hP hK hZ hD)⟩ rfl rfl hl.1 rfl (lv_room (Nat.le_of_ble_eq_true rfl)) d_F_clear_9 ⟨Nat.zero_le _, Nat.zero_le _⟩) hS (fun q _ h => hFc q h) hFc (fun ws t H locs ht hvm hu hB hz1 hk1 hS => ?_)
  obtain ⟨hN_P, hN_PA, hfr⟩ := hu
  obtain ⟨hP, -, hD1⟩ := hB
  rw [ht] at hP
  have hD := hD1.weaken (fun _ _ _ h => hFc _ h)
  have hN_P : zA ws 1 (aP, .inr (1, [.int P_mostSide, .ref aPA, .int q630.1])) := hN_P
  have hN_PA : zA ws 2 (aPA, .inl (cI, PA_n, .inl q630.2)) := hN_PA
  have hN_O := (hfr _ (by decide)).trans hN_O
  have hN_N := (hfr _ (by decide)).trans hN_N
  have hN_NA := (hfr _ (by decide)).trans hN_NA
  have hN_S := (hfr _ (by decide)).trans hN_S
  have hN_K := (hfr _ (by decide)).trans hN_K
  have hN_C := (hfr _ (by decide)).trans hN_C
  have hN_I := (hfr _ (by decide)).trans hN_I
  have hw := z_frC (by decide) hw hfr
  refine lv_aload_n hx hb d_F_clear_12 rfl (lv_at hl 0 rfl) ?_
  refine gf_F_31 (v := .ref aN) hx hb hts hown hK hP hN_O rfl d_F_clear_13 ?_
  refine lv_iconst (v := 0) hx hb d_F_clear_16 (by decide) ?_
  refine lv_iconst (v := 0) hx hb d_F_clear_17 (by decide) ?_
  obtain ⟨q631, hc, hf⟩ := z_b hf
  have hFc := z_free hD hS hA
  refine va_callv (va_runV (As := [.int (0 : Int32), .int (0 : Int32)]) (rest := []) ⟨hx, hb, hml, hown, hts⟩ (c_G_become l dC dI cI cL _ (0 : Int32) (0 : Int32) hN_N hN_NA (by decide) q631 hc) (cw_F_177 hts ⟨Nat.le_of_ble_eq_true rfl, Nat.le_of_ble_eq_true rfl⟩) ⟨zbM, va_recv hK hP (ci := 1) rfl hN_N, (zpM hP hK hZ hD)⟩ rfl rfl hl.1 rfl (lv_room (Nat.le_of_ble_eq_true rfl)) d_F_clear_18 ⟨Nat.zero_le _, Nat.zero_le _⟩) hS (fun q _ h => hFc q h) hFc (fun ws t H locs ht hvm hu hB hz1 hk1 hS => ?_)
  obtain ⟨hN_N, hN_NA, hfr⟩ := hu
  obtain ⟨hP, -, hD1⟩ := hB
  rw [ht] at hP
  have hD := hD1.weaken (fun _ _ _ h => hFc _ h)
  have hN_N : zA ws 3 (aN, .inr (1, [.int N_mostSide, .ref aNA, .int q631.1])) := hN_N
  have hN_NA : zA ws 4 (aNA, .inl (cI, NA_n, .inl q631.2)) := hN_NA
  have hN_O := (hfr _ (by decide)).trans hN_O
  have hN_P := (hfr _ (by decide)).trans hN_P
  have hN_PA := (hfr _ (by decide)).trans hN_PA
  have hN_S := (hfr _ (by decide)).trans hN_S
  have hN_K := (hfr _ (by decide)).trans hN_K
  have hN_C := (hfr _ (by decide)).trans hN_C
  have hN_I := (hfr _ (by decide)).trans hN_I
  have hw := z_frC (by decide) hw hfr
  refine lv_aload_n hx hb d_F_clear_21 rfl (lv_at hl 0 rfl) ?_
  refine gf_F_60 (v := .ref aK) hx hb hts hown hK hP hN_O rfl d_F_clear_22 ?_
  obtain ⟨q632, hc, hf⟩ := z_b hf
  have hFc := z_free hD hS hA
  refine va_callv (va_runV (As := []) (rest := []) ⟨hx, hb, hml, hown, hts⟩ (c_K_wipe l dC dI cI cL _ hN_K q632 hc) (cw_F_118 hts ⟨Nat.le_of_ble_eq_true rfl, Nat.le_of_ble_eq_true rfl⟩) ⟨zbM, va_recv hK hP (ci := 5) rfl hN_K, (zpM hP hK hZ hD)⟩ rfl rfl hl.1 rfl (lv_room (Nat.le_of_ble_eq_true rfl)) d_F_clear_25 ⟨Nat.zero_le _, Nat.zero_le _⟩) hS (fun q _ h => hFc q h) hFc (fun ws t H locs ht hvm hu hB hz1 hk1 hS => ?_)
  obtain ⟨hN_K, hfr⟩ := hu
  obtain ⟨hP, -, hD1⟩ := hB
  rw [ht] at hP
  have hD := hD1.weaken (fun _ _ _ h => hFc _ h)
  have hN_K : zA ws 14 (aK, .inr (5, [.ref aKA, .int q632])) := hN_K
  have hN_O := (hfr _ (by decide)).trans hN_O
  have hN_P := (hfr _ (by decide)).trans hN_P
  have hN_PA := (hfr _ (by decide)).trans hN_PA
  have hN_N := (hfr _ (by decide)).trans hN_N
  have hN_NA := (hfr _ (by decide)).trans hN_NA
  have hN_S := (hfr _ (by decide)).trans hN_S
  have hN_C := (hfr _ (by decide)).trans hN_C
  have hN_I := (hfr _ (by decide)).trans hN_I
  have hw := z_frC (by decide) hw hfr
  refine lv_aload_n hx hb d_F_clear_28 rfl (lv_at hl 0 rfl) ?_
  refine gf_F_74 (v := .ref aC) hx hb hts hown hK hP hN_O rfl d_F_clear_29 ?_
  obtain ⟨q633, hc, hf⟩ := z_b hf
  have hFc := z_free hD hS hA
  refine va_callv (va_runV (As := []) (rest := []) ⟨hx, hb, hml, hown, hts⟩ (c_B_wipe l dC dI cI cL _ hN_C q633 hc) (cw_F_121 hts ⟨Nat.le_of_ble_eq_true rfl, Nat.le_of_ble_eq_true rfl⟩) ⟨zbM, va_recv hK hP (ci := 6) rfl hN_C, (zpM hP hK hZ hD)⟩ rfl rfl hl.1 rfl (lv_room (Nat.le_of_ble_eq_true rfl)) d_F_clear_32 ⟨Nat.zero_le _, Nat.zero_le _⟩) hS (fun q _ h => hFc q h) hFc (fun ws t H locs ht hvm hu hB hz1 hk1 hS => ?_)
  obtain ⟨hN_C, hfr⟩ := hu
  obtain ⟨hP, -, hD1⟩ := hB
  rw [ht] at hP
  have hD := hD1.weaken (fun _ _ _ h => hFc _ h)
  have hN_C : zA ws 17 (aC, .inr (6, [.ref aCA, .int q633.1, .int q633.2])) := hN_C
  have hN_O := (hfr _ (by decide)).trans hN_O
  have hN_P := (hfr _ (by decide)).trans hN_P
  have hN_PA := (hfr _ (by decide)).trans hN_PA
  have hN_N := (hfr _ (by decide)).trans hN_N
  have hN_NA := (hfr _ (by decide)).trans hN_NA
  have hN_S := (hfr _ (by decide)).trans hN_S
  have hN_K := (hfr _ (by decide)).trans hN_K
  have hN_I := (hfr _ (by decide)).trans hN_I
  have hw := z_frC (by decide) hw hfr
  refine lv_aload_n hx hb d_F_clear_35 rfl (lv_at hl 0 rfl) ?_
  refine gf_F_78 (v := .ref aI) hx hb hts hown hK hP hN_O rfl d_F_clear_36 ?_
  obtain ⟨q634, hc, hf⟩ := z_b hf
  have hFc := z_free hD hS hA
  refine va_callv (va_runV (As := []) (rest := []) ⟨hx, hb, hml, hown, hts⟩ (c_B_wipe l dC dI cI cL _ hN_I q634 hc) (cw_F_121 hts ⟨Nat.le_of_ble_eq_true rfl, Nat.le_of_ble_eq_true rfl⟩) ⟨zbM, va_recv hK hP (ci := 6) rfl hN_I, (zpM hP hK hZ hD)⟩ rfl rfl hl.1 rfl (lv_room (Nat.le_of_ble_eq_true rfl)) d_F_clear_39 ⟨Nat.zero_le _, Nat.zero_le _⟩) hS (fun q _ h => hFc q h) hFc (fun ws t H locs ht hvm hu hB hz1 hk1 hS => ?_)
  obtain ⟨hN_I, hfr⟩ := hu
  obtain ⟨hP, -, hD1⟩ := hB
  rw [ht] at hP
  have hD := hD1.weaken (fun _ _ _ h => hFc _ h)
  have hN_I : zA ws 19 (aI, .inr (6, [.ref aIA, .int q634.1, .int q634.2])) := hN_I
  have hN_O := (hfr _ (by decide)).trans hN_O
  have hN_P := (hfr _ (by decide)).trans hN_P
  have hN_PA := (hfr _ (by decide)).trans hN_PA
  have hN_N := (hfr _ (by decide)).trans hN_N
  have hN_NA := (hfr _ (by decide)).trans hN_NA
  have hN_S := (hfr _ (by decide)).trans hN_S
  have hN_K := (hfr _ (by decide)).trans hN_K
  have hN_C := (hfr _ (by decide)).trans hN_C
  have hw := z_frC (by decide) hw hfr
  refine lv_aload_n hx hb d_F_clear_42 rfl (lv_at hl 0 rfl) ?_
  refine gf_F_51 (v := .ref aS) hx hb hts hown hK hP hN_O rfl d_F_clear_43 ?_
  refine lv_iconst (v := 0) hx hb d_F_clear_46 (by decide) ?_
  refine pf_F_212 (v := .int (0 : Int32)) hx hb hts hown hK hZ hP hD hS hN_S rfl rfl (Nat.le_of_ble_eq_true rfl) d_F_clear_47 (fun ws H locs hP hD hS hN_S hfr => ?_)
  have hN_S : zA ws 8 (aS, .inr (3, [.ref aP, .ref aH, .ref aV, .ref aW, .ref aD, .ref aQ, .ref aR, .ref aE, .int (0 : Int32), .int S_size, .int S_count, .int S_wantedSum, .int S_foundSum, .int S_foundSquares])) := hN_S
  have hN_O := (hfr _ (by decide)).trans hN_O
  have hN_P := (hfr _ (by decide)).trans hN_P
  have hN_PA := (hfr _ (by decide)).trans hN_PA
  have hN_N := (hfr _ (by decide)).trans hN_N
  have hN_NA := (hfr _ (by decide)).trans hN_NA
  have hN_K := (hfr _ (by decide)).trans hN_K
  have hN_C := (hfr _ (by decide)).trans hN_C
  have hN_I := (hfr _ (by decide)).trans hN_I
  have hw := z_fr (by decide) hw hfr
  obtain rfl := Option.some.inj hf
  exact W.vret hx hb hr (fun t ht hW => ⟨⟨ws, rfl, (by dsimp only; exact ⟨hN_P, hN_PA, hN_N, hN_NA, hN_S, hN_K, hN_C, hN_I, hw⟩), by rw [ht]; exact hP, va_K.moved hW.alike hK, hD⟩, hS.F ht⟩) hS.2.2 d_F_clear_50
def f_M_thrown (X_code : Int32) : Option (Int32) := some X_code
set_option maxHeartbeats 4000000 in
set_option maxRecDepth 100000 in
theorem c_M_thrown (l : Launch) (dC : Nat → ClassId) (dI : Nat → Nat → Nat) (cI cL : ClassId) {ws : va_W} {aX aXpicture aXhalf aXblocks aXencoded aXfed aXpile aXnews aXolds aXhalves aXds aXrs aXbest : Nat} {X_code X_side X_many X_found X_encodedBits X_fedMany X_readAt X_why X_tried X_waiting X_decoded : Int32} {X_bestError : Int64} (hN_X : zA ws 21 (aX, .inr (7, [.int X_code, .int X_side, .ref aXpicture, .ref aXhalf, .int X_many, .ref aXblocks, .int X_found, .int X_encodedBits, .ref aXencoded, .int X_fedMany, .ref aXfed, .int X_readAt, .int X_why, .int X_tried, .int X_waiting, .ref aXpile, .int X_decoded, .ref aXnews, .ref aXolds, .ref aXhalves, .ref aXds, .ref aXrs, .ref aXbest, .long X_bestError]))) (r : Int32) (hf : f_M_thrown X_code = some r) : Met l y_M_thrown w_M_thrown rm_M_thrown (va_Pc [.ref aX] (zR dC dI cI cL ws)) (vp_Si (fun v => v = r)) 0 0 (fun _ => False) := by
  refine Met.ofW (cc := b_M_thrown) (maxL := 1) (ret := some .int) (by decide) rfl ?_
  intro p e s m args below meth c s₁ B hml hv
  obtain ⟨rfl, hP, hK, hZ⟩ := hv
  have hx := B.exec
  have hb := B.bytes
  have hr := B.returns
  have hlocks := B.notSynchronized
  have hts : ∀ w ∈ BIG, w.before ([.ref aX] : List Value).toArray s = true := fun w h => atoms_spec (ws := w_M_thrown) B.pre w (List.mem_cons_of_mem _ h)
  have hown : s.vm.findClass "FractalMapsModel" = some m.cls := findClass_of_methodNamed B.named
  have hl := lv_entry ([.ref aX]) (n := 1) (Nat.le_of_ble_eq_true rfl)
  rw [lg_entry_eq]
  generalize (lg_sl ([.ref aX]) ++ List.replicate (1 - (lg_sl ([.ref aX])).length) Slot.unset).toArray = ls at hl ⊢
  have hl : lv_has ls 1 [(0, .ref aX)] := hl
  unfold f_M_thrown at hf
  refine lv_aload_n hx hb d_M_thrown_0 rfl (lv_at hl 0 rfl) ?_
  refine gf_M_50 (v := .int X_code) hx hb hts hown hK hP hN_X rfl d_M_thrown_1 ?_
  obtain rfl := Option.some.inj hf
  exact W.iret hx hb hr (fun t ht hW => ⟨_, rfl, rfl, ht⟩) (fun q h => by cases h) d_M_thrown_4
def f_M_in (x1 : Int64) (x2 : Int64) (x3 : Int64) : Option (Int32) := if (lg_cmp x1 x2) < 0 then (some (0 : Int32)) else (if 0 < (lg_cmp x1 x3) then (some (0 : Int32)) else (some (1 : Int32)))
set_option maxHeartbeats 4000000 in
set_option maxRecDepth 100000 in
theorem c_M_in (l : Launch) (x1 : Int64) (x2 : Int64) (x3 : Int64) (r : Int32) (hf : f_M_in x1 x2 x3 = some r) : Met l y_M_in w_M_in rm_M_in (va_Pc [.long x1, .long x2, .long x3] (fun _ => True)) (vp_Si (fun v => v = r)) 0 0 (fun _ => False) := by
  refine Met.ofW (cc := b_M_in) (maxL := 6) (ret := some .boolean) (by decide) rfl ?_
  intro p e s m args below meth c s₁ B hml hv
  obtain ⟨rfl, -⟩ := hv
  have hx := B.exec
  have hb := B.bytes
  have hr := B.returns
  have hlocks := B.notSynchronized
  have hts : ∀ w ∈ BIG, w.before ([.long x1, .long x2, .long x3] : List Value).toArray s = true := fun w h => atoms_spec (ws := w_M_in) B.pre w (List.mem_cons_of_mem _ h)
  have hown : s.vm.findClass "FractalMapsModel" = some m.cls := findClass_of_methodNamed B.named
  have hl := lv_entry ([.long x1, .long x2, .long x3]) (n := 6) (Nat.le_of_ble_eq_true rfl)
  rw [lg_entry_eq]
  generalize (lg_sl ([.long x1, .long x2, .long x3]) ++ List.replicate (6 - (lg_sl ([.long x1, .long x2, .long x3])).length) Slot.unset).toArray = ls at hl ⊢
  have hl : lv_has ls 6 [(0, .long x1), (2, .long x2), (4, .long x3)] := hl
  unfold f_M_in at hf
  refine lv_lload_n hx hb d_M_in_0 rfl (lv_at hl 0 rfl) ?_
  refine lv_lload_n hx hb d_M_in_1 rfl (lv_at hl 1 rfl) ?_
  refine W.lcmp hx hb d_M_in_2 ?_
  refine lv_if_lt (tgt := 17) hx hb d_M_in_3 (by decide) (fun hc => ?_) (fun hc => ?_)
  · have hf := z_t hc hf
    refine lv_iconst (v := 0) hx hb d_M_in_17 (by decide) ?_
    obtain rfl := Option.some.inj hf
    exact W.zret (ty := .boolean) hx hb hr (by decide) (fun t ht hW => ⟨_, rfl, rfl, ht⟩) (fun q h => by cases h) d_M_in_18
  · have hf := z_f hc hf
    refine lv_lload_n hx hb d_M_in_6 rfl (lv_at hl 0 rfl) ?_
    refine lv_lload hx hb d_M_in_7 (lv_at hl 2 rfl) ?_
    refine W.lcmp hx hb d_M_in_9 ?_
    refine lv_if_gt (tgt := 17) hx hb d_M_in_10 (by decide) (fun hc => ?_) (fun hc => ?_)
    · have hf := z_t hc hf
      refine lv_iconst (v := 0) hx hb d_M_in_17 (by decide) ?_
      obtain rfl := Option.some.inj hf
      exact W.zret (ty := .boolean) hx hb hr (by decide) (fun t ht hW => ⟨_, rfl, rfl, ht⟩) (fun q h => by cases h) d_M_in_18
    · have hf := z_f hc hf
      refine lv_iconst (v := 1) hx hb d_M_in_13 (by decide) ?_
      refine lv_goto (tgt := 18) hx hb d_M_in_14 (by decide) ?_
      obtain rfl := Option.some.inj hf
      exact W.zret (ty := .boolean) hx hb hr (by decide) (fun t ht hW => ⟨_, rfl, rfl, ht⟩) (fun q h => by cases h) d_M_in_18
def f_M_isPlace (x1 : Int32) (x2 : Int32) (X_side : Int32) : Option (Int32) := (f_M_in x1.toInt64 (0 : Int64) ((X_side - (1 : Int32)).toInt64)).bind (fun q635 => if q635 = 0 then (some (0 : Int32)) else ((f_M_in x2.toInt64 (0 : Int64) ((X_side - (1 : Int32)).toInt64)).bind (fun q637 => if q637 = 0 then (some (0 : Int32)) else (some (1 : Int32)))))
set_option maxHeartbeats 4000000 in
set_option maxRecDepth 100000 in
theorem c_M_isPlace (l : Launch) (dC : Nat → ClassId) (dI : Nat → Nat → Nat) (cI cL : ClassId) {ws : va_W} {aX aXpicture aXhalf aXblocks aXencoded aXfed aXpile aXnews aXolds aXhalves aXds aXrs aXbest : Nat} {X_code X_side X_many X_found X_encodedBits X_fedMany X_readAt X_why X_tried X_waiting X_decoded : Int32} {X_bestError : Int64} (x1 : Int32) (x2 : Int32) (hN_X : zA ws 21 (aX, .inr (7, [.int X_code, .int X_side, .ref aXpicture, .ref aXhalf, .int X_many, .ref aXblocks, .int X_found, .int X_encodedBits, .ref aXencoded, .int X_fedMany, .ref aXfed, .int X_readAt, .int X_why, .int X_tried, .int X_waiting, .ref aXpile, .int X_decoded, .ref aXnews, .ref aXolds, .ref aXhalves, .ref aXds, .ref aXrs, .ref aXbest, .long X_bestError]))) (r : Int32) (hf : f_M_isPlace x1 x2 X_side = some r) : Met l y_M_isPlace w_M_isPlace rm_M_isPlace (va_Pc [.ref aX, .int x1, .int x2] (zR dC dI cI cL ws)) (vp_Si (fun v => v = r)) 0 0 (fun _ => False) := by
  refine Met.ofW (cc := b_M_isPlace) (maxL := 3) (ret := some .boolean) (by decide) rfl ?_
  intro p e s m args below meth c s₁ B hml hv
  obtain ⟨rfl, hP, hK, hZ⟩ := hv
  have hx := B.exec
  have hb := B.bytes
  have hr := B.returns
  have hlocks := B.notSynchronized
  have hts : ∀ w ∈ BIG, w.before ([.ref aX, .int x1, .int x2] : List Value).toArray s = true := fun w h => atoms_spec (ws := w_M_isPlace) B.pre w (List.mem_cons_of_mem _ h)
  have hown : s.vm.findClass "FractalMapsModel" = some m.cls := findClass_of_methodNamed B.named
  have hl := lv_entry ([.ref aX, .int x1, .int x2]) (n := 3) (Nat.le_of_ble_eq_true rfl)
  rw [lg_entry_eq]
  generalize (lg_sl ([.ref aX, .int x1, .int x2]) ++ List.replicate (3 - (lg_sl ([.ref aX, .int x1, .int x2])).length) Slot.unset).toArray = ls at hl ⊢
  have hl : lv_has ls 3 [(0, .ref aX), (1, .int x1), (2, .int x2)] := hl
  unfold f_M_isPlace at hf
  refine lv_iload_n hx hb d_M_isPlace_0 rfl (lv_at hl 1 rfl) ?_
  refine lv_i2l hx hb d_M_isPlace_1 rfl ?_
  refine lv_lconst (v := 0) hx hb d_M_isPlace_2 (by decide) ?_
  refine lv_aload_n hx hb d_M_isPlace_3 rfl (lv_at hl 0 rfl) ?_
  refine gf_M_46 (v := .int X_side) hx hb hts hown hK hP hN_X rfl d_M_isPlace_4 ?_
  refine lv_iconst (v := 1) hx hb d_M_isPlace_7 (by decide) ?_
  refine lv_isub hx hb d_M_isPlace_8 ?_
  refine lv_i2l hx hb d_M_isPlace_9 rfl ?_
  obtain ⟨q635, hc, hf⟩ := z_b hf
  refine vp_callSi (z_cr (va_runS (As := [.long x1.toInt64, .long (0 : Int64), .long ((X_side - (1 : Int32)).toInt64)]) (rest := []) ⟨hx, hb, hml, hown, hts⟩ (c_M_in l x1.toInt64 (0 : Int64) ((X_side - (1 : Int32)).toInt64) q635 hc) (cw_M_55 hts ⟨Nat.le_of_ble_eq_true rfl, Nat.le_of_ble_eq_true rfl⟩) ⟨zb0, zp0⟩ rfl rfl hl.1 rfl (lv_room (Nat.le_of_ble_eq_true rfl)) d_M_isPlace_10 ⟨Nat.zero_le _, Nat.zero_le _⟩)) (fun r636 hv => ?_)
  have hv := hv.symm
  subst hv
  refine lv_if_eq (tgt := 36) hx hb d_M_isPlace_13 (by decide) (fun hc => ?_) (fun hc => ?_)
  · have hf := z_t hc hf
    refine lv_iconst (v := 0) hx hb d_M_isPlace_36 (by decide) ?_
    obtain rfl := Option.some.inj hf
    exact W.zret (ty := .boolean) hx hb hr (by decide) (fun t ht hW => ⟨_, rfl, rfl, ht⟩) (fun q h => by cases h) d_M_isPlace_37
  · have hf := z_f hc hf
    refine lv_iload_n hx hb d_M_isPlace_16 rfl (lv_at hl 2 rfl) ?_
    refine lv_i2l hx hb d_M_isPlace_17 rfl ?_
    refine lv_lconst (v := 0) hx hb d_M_isPlace_18 (by decide) ?_
    refine lv_aload_n hx hb d_M_isPlace_19 rfl (lv_at hl 0 rfl) ?_
    refine gf_M_46 (v := .int X_side) hx hb hts hown hK hP hN_X rfl d_M_isPlace_20 ?_
    refine lv_iconst (v := 1) hx hb d_M_isPlace_23 (by decide) ?_
    refine lv_isub hx hb d_M_isPlace_24 ?_
    refine lv_i2l hx hb d_M_isPlace_25 rfl ?_
    obtain ⟨q637, hc, hf⟩ := z_b hf
    refine vp_callSi (z_cr (va_runS (As := [.long x2.toInt64, .long (0 : Int64), .long ((X_side - (1 : Int32)).toInt64)]) (rest := []) ⟨hx, hb, hml, hown, hts⟩ (c_M_in l x2.toInt64 (0 : Int64) ((X_side - (1 : Int32)).toInt64) q637 hc) (cw_M_55 hts ⟨Nat.le_of_ble_eq_true rfl, Nat.le_of_ble_eq_true rfl⟩) ⟨zb0, zp0⟩ rfl rfl hl.1 rfl (lv_room (Nat.le_of_ble_eq_true rfl)) d_M_isPlace_26 ⟨Nat.zero_le _, Nat.zero_le _⟩)) (fun r638 hv => ?_)
    have hv := hv.symm
    subst hv
    refine lv_if_eq (tgt := 36) hx hb d_M_isPlace_29 (by decide) (fun hc => ?_) (fun hc => ?_)
    · have hf := z_t hc hf
      refine lv_iconst (v := 0) hx hb d_M_isPlace_36 (by decide) ?_
      obtain rfl := Option.some.inj hf
      exact W.zret (ty := .boolean) hx hb hr (by decide) (fun t ht hW => ⟨_, rfl, rfl, ht⟩) (fun q h => by cases h) d_M_isPlace_37
    · have hf := z_f hc hf
      refine lv_iconst (v := 1) hx hb d_M_isPlace_32 (by decide) ?_
      refine lv_goto (tgt := 37) hx hb d_M_isPlace_33 (by decide) ?_
      obtain rfl := Option.some.inj hf
      exact W.zret (ty := .boolean) hx hb hr (by decide) (fun t ht hW => ⟨_, rfl, rfl, ht⟩) (fun q h => by cases h) d_M_isPlace_37
