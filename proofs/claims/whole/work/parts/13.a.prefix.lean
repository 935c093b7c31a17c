abbrev rm_L_cell : Room := { frames := 0, cells := 0, slots := 0, locals := 0 }
theorem cw_L_56 {R : Room} {s : State} {args : Array Value} (hts : ∀ w ∈ BIG, w.before args s = true) (hR : rm_L_cell.frames + 1 ≤ R.frames ∧ 8 + (2 + 11) + rm_L_cell.locals ≤ R.locals) : CallB R s args "FractalMapsLaw" 56 y_L_cell b_L_cell 2 (some .int) w_L_cell rm_L_cell 0 0 2 ∧ (Cond.static y_L_cell).before args s = true := ⟨callB_of 2 hts (z_g k_396) rfl rfl rfl (hts _ k_36) (hts _ k_394) (by decide +kernel) hR, hts _ k_395⟩
theorem c_L_cell (l : Launch) (b L : Nat) (xs : Nat → Int32) : Met l y_L_cell w_L_cell rm_L_cell (va_Pc [.ref b, .int (0 : Int32)] (fun U => va_X b L xs U U.heap ∧ b < U.heap.size)) (vp_Si (fun v => v = if Int32.ofNat L ≤ 0 then 0 else if (0 : Int32) < 0 ∨ L ≤ (0 : Int32).toNatClampNeg then v else xs (0 : Int32).toNatClampNeg)) 0 0 (fun _ => False) := by
  refine Met.ofW (cc := b_L_cell) (maxL := 2) (ret := some .int) (by decide) rfl ?_
  intro p e s m args below meth c s₁ B hml hv
  obtain ⟨rfl, hX, hbl⟩ := hv
  have hx := B.exec
  have hb := B.bytes
  have hr := B.returns
  have hS : va_S (fun _ => False) s.heap s.heap [] := va_S.rf
  have hl := lv_entry ([.ref b, .int (0 : Int32)]) (n := 2) (Nat.le_of_ble_eq_true rfl)
  rw [lg_entry_eq]
  generalize (lg_sl ([.ref b, .int (0 : Int32)]) ++ List.replicate (2 - (lg_sl ([.ref b, .int (0 : Int32)])).length) Slot.unset).toArray = ls at hl ⊢
  have hl : lv_has ls 2 [(0, .ref b), (1, .int (0 : Int32))] := hl
  refine lv_iload_n hx hb d_L_cell_0 rfl (lv_at hl 1 rfl) ?_
  refine lv_aload_n hx hb d_L_cell_1 rfl (lv_at hl 0 rfl) ?_
  refine va_slen hx hb hX hbl (fun h => h) hS d_L_cell_2 ?_
  refine lv_icmp_ge (tgt := 12) hx hb d_L_cell_3 (by decide) (fun hc => ?_) (fun hc => ?_)
  · refine lv_iconst (v := 0) hx hb d_L_cell_12 (by decide) ?_
    exact W.iret hx hb hr (fun t ht hW => ⟨_, rfl, by show (0 : Int32) = _; rw [if_pos hc], ht⟩) (fun q h => by cases h) d_L_cell_13
  · refine lv_aload_n hx hb d_L_cell_6 rfl (lv_at hl 0 rfl) ?_
    refine lv_iload_n hx hb d_L_cell_7 rfl (lv_at hl 1 rfl) ?_
    have hin : vp_in (0 : Int32) L := by
      intro h
      rcases h with h | h
      · exact absurd h (by decide)
      · have : L = 0 := Nat.le_zero.mp h
        subst this
        exact hc (by decide)
    refine va_sld hx hb hX hbl (fun h => h) hS hin d_L_cell_8 ?_
    refine lv_goto (tgt := 13) hx hb d_L_cell_9 (by decide) ?_
    exact W.iret hx hb hr (fun t ht hW => ⟨_, rfl, by dsimp only; rw [if_neg hc, if_neg hin], ht⟩) (fun q h => by cases h) d_L_cell_13
theorem zbC {av : List Value} {b L : Nat} {xs : Nat → Int32} : FrameBlind (va_Pc av (fun U => va_X b L xs U U.heap ∧ b < U.heap.size)) := fun a U g mk q => ⟨q.1, va_X.moved (u := U) (U := U.calling g mk a) (Vm.Alike.refl U.vm) q.2.1, q.2.2⟩
theorem zpC {s : State} {H : Heap} {locs : List Loc} {A : Nat → Prop} {av : List Value} {b L : Nat} {xs : Nat → Int32} (hXs : va_X b L xs s s.heap) (hbl : b < s.heap.size) (hbA : ¬ A b) (hS : va_S A s.heap H locs) : ∀ U : State, U.heap = H → s.WarmedH U.vm → va_Pc av (fun U => va_X b L xs U U.heap ∧ b < U.heap.size) av.toArray U := fun U hU hW => by
  refine ⟨rfl, ?_, ?_⟩
  · rw [hU]; exact va_X.moved hW.alike (hXs.kept (hS.2.1 b hbl hbA))
  · rw [hU]; exact Nat.lt_of_lt_of_le hbl hS.1
set_option maxHeartbeats 4000000 in
set_option maxRecDepth 100000 in
theorem lw_prefix {p : Program} {l : Launch} {e : Env} {s : State} {m : MethodId} {below : List Frame} {meth : Method} {c : Code} {b L : Nat} {xs : Nat → Int32} {dC : Nat → ClassId} {dI : Nat → Nat → Nat} {cI cL : ClassId} {A : Nat → Prop} {Q : State → Prop} {ls : Array Slot} (fx : lwFix p l s m c b L xs dC dI cI cL A) (hl : lv_has ls 8 [(0, .ref b)]) (x0 sd : Int32) (hx0 : ∀ v : Int32, (v = if Int32.ofNat L ≤ 0 then 0 else if (0 : Int32) < 0 ∨ L ≤ (0 : Int32).toNatClampNeg then v else xs (0 : Int32).toNatClampNeg) → v = x0) (hsd : ((4 : Int32) <<< ((if (0 : Int32) < (if (3 : Int32) < x0 then (3 : Int32) else x0) then (if (3 : Int32) < x0 then (3 : Int32) else x0) else (0 : Int32)) &&& 31)) = sd) (hsd0 : x0 < 0 → (4 : Int32) <<< ((0 : Int32) &&& 31) = sd) (hsd1 : (3 : Int32) < x0 → (4 : Int32) <<< ((3 : Int32) &&& 31) = sd) (hsd2 : 0 ≤ x0 → x0 ≤ (3 : Int32) → (4 : Int32) <<< (x0 &&& 31) = sd) {N_PA N_NA N_HA N_W N_D N_KA N_CA N_IA : Nat} (e1_PA : ¬ ((if (1 : Int32) < (if (64 : Int32) < sd then (64 : Int32) else sd) then (if (64 : Int32) < sd then (64 : Int32) else sd) else (1 : Int32)) * (if (1 : Int32) < (if (64 : Int32) < sd then (64 : Int32) else sd) then (if (64 : Int32) < sd then (64 : Int32) else sd) else (1 : Int32))) < 0) (e2_PA : ((if (1 : Int32) < (if (64 : Int32) < sd then (64 : Int32) else sd) then (if (64 : Int32) < sd then (64 : Int32) else sd) else (1 : Int32)) * (if (1 : Int32) < (if (64 : Int32) < sd then (64 : Int32) else sd) then (if (64 : Int32) < sd then (64 : Int32) else sd) else (1 : Int32))).toNatClampNeg = N_PA) (e3_PA : N_PA ≤ 4096) (e1_NA : ¬ ((if (1 : Int32) < (if (64 : Int32) < ((2 : Int32) * sd) then (64 : Int32) else ((2 : Int32) * sd)) then (if (64 : Int32) < ((2 : Int32) * sd) then (64 : Int32) else ((2 : Int32) * sd)) else (1 : Int32)) * (if (1 : Int32) < (if (64 : Int32) < ((2 : Int32) * sd) then (64 : Int32) else ((2 : Int32) * sd)) then (if (64 : Int32) < ((2 : Int32) * sd) then (64 : Int32) else ((2 : Int32) * sd)) else (1 : Int32))) < 0) (e2_NA : ((if (1 : Int32) < (if (64 : Int32) < ((2 : Int32) * sd) then (64 : Int32) else ((2 : Int32) * sd)) then (if (64 : Int32) < ((2 : Int32) * sd) then (64 : Int32) else ((2 : Int32) * sd)) else (1 : Int32)) * (if (1 : Int32) < (if (64 : Int32) < ((2 : Int32) * sd) then (64 : Int32) else ((2 : Int32) * sd)) then (if (64 : Int32) < ((2 : Int32) * sd) then (64 : Int32) else ((2 : Int32) * sd)) else (1 : Int32))).toNatClampNeg = N_NA) (e3_NA : N_NA ≤ 4096) (e1_HA : ¬ ((if (1 : Int32) < (if (64 : Int32) < sd then (64 : Int32) else sd) then (if (64 : Int32) < sd then (64 : Int32) else sd) else (1 : Int32)) * (if (1 : Int32) < (if (64 : Int32) < sd then (64 : Int32) else sd) then (if (64 : Int32) < sd then (64 : Int32) else sd) else (1 : Int32))) < 0) (e2_HA : ((if (1 : Int32) < (if (64 : Int32) < sd then (64 : Int32) else sd) then (if (64 : Int32) < sd then (64 : Int32) else sd) else (1 : Int32)) * (if (1 : Int32) < (if (64 : Int32) < sd then (64 : Int32) else sd) then (if (64 : Int32) < sd then (64 : Int32) else sd) else (1 : Int32))).toNatClampNeg = N_HA) (e3_HA : N_HA ≤ 4096) (e1_W : ¬ ((nI N_PA) / (4 : Int32)) < 0) (e2_W : ((nI N_PA) / (4 : Int32)).toNatClampNeg = N_W) (e3_W : N_W ≤ 1024) (e1_D : ¬ ((nI N_PA) / (4 : Int32)) < 0) (e2_D : ((nI N_PA) / (4 : Int32)).toNatClampNeg = N_D) (e3_D : N_D ≤ 1024) (e1_KA : ¬ ((8 : Int32) * (if (1 : Int32) < (if (256 : Int32) < ((sd * sd) / (4 : Int32)) then (256 : Int32) else ((sd * sd) / (4 : Int32))) then (if (256 : Int32) < ((sd * sd) / (4 : Int32)) then (256 : Int32) else ((sd * sd) / (4 : Int32))) else (1 : Int32))) < 0) (e2_KA : ((8 : Int32) * (if (1 : Int32) < (if (256 : Int32) < ((sd * sd) / (4 : Int32)) then (256 : Int32) else ((sd * sd) / (4 : Int32))) then (if (256 : Int32) < ((sd * sd) / (4 : Int32)) then (256 : Int32) else ((sd * sd) / (4 : Int32))) else (1 : Int32))).toNatClampNeg = N_KA) (e3_KA : N_KA ≤ 2048) (e1_CA : ¬ (if (1 : Int32) < (if (2000 : Int32) < (sd * sd) then (2000 : Int32) else (sd * sd)) then (if (2000 : Int32) < (sd * sd) then (2000 : Int32) else (sd * sd)) else (1 : Int32)) < 0) (e2_CA : (if (1 : Int32) < (if (2000 : Int32) < (sd * sd) then (2000 : Int32) else (sd * sd)) then (if (2000 : Int32) < (sd * sd) then (2000 : Int32) else (sd * sd)) else (1 : Int32)).toNatClampNeg = N_CA) (e3_CA : N_CA ≤ 2000) (e1_IA : ¬ (if (1 : Int32) < (if (2000 : Int32) < (2000 : Int32) then (2000 : Int32) else (2000 : Int32)) then (if (2000 : Int32) < (2000 : Int32) then (2000 : Int32) else (2000 : Int32)) else (1 : Int32)) < 0) (e2_IA : (if (1 : Int32) < (if (2000 : Int32) < (2000 : Int32) then (2000 : Int32) else (2000 : Int32)) then (if (2000 : Int32) < (2000 : Int32) then (2000 : Int32) else (2000 : Int32)) else (1 : Int32)).toNatClampNeg = N_IA) (e3_IA : N_IA ≤ 2000) (kt : ∀ (aO aP aPA aN aNA aH aHA aV aS aW aD aQ aR aE aK aKA aT aC aCA aI aIA aX aXpicture aXhalf aXblocks aXencoded aXfed aXpile aXnews aXolds aXhalves aXds aXrs aXbest aOUT : Nat) (ws : va_W) (H : Heap) (locs : List Loc) (ls : Array Slot), lv_has ls 8 [(0, .ref b), (1, .ref aO), (2, .ref aX), (3, .ref aOUT), (4, .int (1 : Int32))] → va_P (dC, dI) classes ws H → va_D A ws → va_S A s.heap H locs → zA ws 0 (aO, .inr (0, [.int sd, .ref aP, .ref aN, .ref aH, .ref aV, .ref aS, .ref aK, .ref aT, .ref aC, .ref aI])) → zA ws 1 (aP, .inr (1, [.int (if (1 : Int32) < (if (64 : Int32) < sd then (64 : Int32) else sd) then (if (64 : Int32) < sd then (64 : Int32) else sd) else (1 : Int32)), .ref aPA, .int (if (0 : Int32) < (if (if (1 : Int32) < (if (64 : Int32) < sd then (64 : Int32) else sd) then (if (64 : Int32) < sd then (64 : Int32) else sd) else (1 : Int32)) < sd then (if (1 : Int32) < (if (64 : Int32) < sd then (64 : Int32) else sd) then (if (64 : Int32) < sd then (64 : Int32) else sd) else (1 : Int32)) else sd) then (if (if (1 : Int32) < (if (64 : Int32) < sd then (64 : Int32) else sd) then (if (64 : Int32) < sd then (64 : Int32) else sd) else (1 : Int32)) < sd then (if (1 : Int32) < (if (64 : Int32) < sd then (64 : Int32) else sd) then (if (64 : Int32) < sd then (64 : Int32) else sd) else (1 : Int32)) else sd) else (0 : Int32))])) → zA ws 2 (aPA, .inl (cI, N_PA, .inl (fun _ => 0))) → zA ws 3 (aN, .inr (1, [.int (if (1 : Int32) < (if (64 : Int32) < ((2 : Int32) * sd) then (64 : Int32) else ((2 : Int32) * sd)) then (if (64 : Int32) < ((2 : Int32) * sd) then (64 : Int32) else ((2 : Int32) * sd)) else (1 : Int32)), .ref aNA, .int (if (0 : Int32) < (if (if (1 : Int32) < (if (64 : Int32) < ((2 : Int32) * sd) then (64 : Int32) else ((2 : Int32) * sd)) then (if (64 : Int32) < ((2 : Int32) * sd) then (64 : Int32) else ((2 : Int32) * sd)) else (1 : Int32)) < (0 : Int32) then (if (1 : Int32) < (if (64 : Int32) < ((2 : Int32) * sd) then (64 : Int32) else ((2 : Int32) * sd)) then (if (64 : Int32) < ((2 : Int32) * sd) then (64 : Int32) else ((2 : Int32) * sd)) else (1 : Int32)) else (0 : Int32)) then (if (if (1 : Int32) < (if (64 : Int32) < ((2 : Int32) * sd) then (64 : Int32) else ((2 : Int32) * sd)) then (if (64 : Int32) < ((2 : Int32) * sd) then (64 : Int32) else ((2 : Int32) * sd)) else (1 : Int32)) < (0 : Int32) then (if (1 : Int32) < (if (64 : Int32) < ((2 : Int32) * sd) then (64 : Int32) else ((2 : Int32) * sd)) then (if (64 : Int32) < ((2 : Int32) * sd) then (64 : Int32) else ((2 : Int32) * sd)) else (1 : Int32)) else (0 : Int32)) else (0 : Int32))])) → zA ws 4 (aNA, .inl (cI, N_NA, .inl (fun _ => 0))) → zA ws 5 (aH, .inr (1, [.int (if (1 : Int32) < (if (64 : Int32) < sd then (64 : Int32) else sd) then (if (64 : Int32) < sd then (64 : Int32) else sd) else (1 : Int32)), .ref aHA, .int (if (0 : Int32) < (if (if (1 : Int32) < (if (64 : Int32) < sd then (64 : Int32) else sd) then (if (64 : Int32) < sd then (64 : Int32) else sd) else (1 : Int32)) < (0 : Int32) then (if (1 : Int32) < (if (64 : Int32) < sd then (64 : Int32) else sd) then (if (64 : Int32) < sd then (64 : Int32) else sd) else (1 : Int32)) else (0 : Int32)) then (if (if (1 : Int32) < (if (64 : Int32) < sd then (64 : Int32) else sd) then (if (64 : Int32) < sd then (64 : Int32) else sd) else (1 : Int32)) < (0 : Int32) then (if (1 : Int32) < (if (64 : Int32) < sd then (64 : Int32) else sd) then (if (64 : Int32) < sd then (64 : Int32) else sd) else (1 : Int32)) else (0 : Int32)) else (0 : Int32))])) → zA ws 6 (aHA, .inl (cI, N_HA, .inl (fun _ => 0))) → zA ws 7 (aV, .inr (2, [.ref aH, .int 0, .int 0, .int 0, .int 0, .int 0])) → zA ws 8 (aS, .inr (3, [.ref aP, .ref aH, .ref aV, .ref aW, .ref aD, .ref aQ, .ref aR, .ref aE, .int 0, .int 0, .int 0, .int 0, .int 0, .int 0])) → zA ws 9 (aW, .inl (cI, N_W, .inl (fun _ => 0))) → zA ws 10 (aD, .inl (cI, N_D, .inl (fun _ => 0))) → zA ws 11 (aQ, .inl (cI, 4, .inl (fun _ => 0))) → zA ws 12 (aR, .inl (cI, 8, .inl (fun _ => 0))) → zA ws 13 (aE, .inr (4, [.int 0, .int 0, .int 0, .int 0, .int 0])) → zA ws 14 (aK, .inr (5, [.ref aKA, .int 0])) → zA ws 15 (aKA, .inl (cI, N_KA, .inl (fun _ => 0))) → zA ws 16 (aT, .inr (4, [.int 0, .int 0, .int 0, .int 0, .int 0])) → zA ws 17 (aC, .inr (6, [.ref aCA, .int 0, .int 0])) → zA ws 18 (aCA, .inl (cI, N_CA, .inl (fun _ => 0))) → zA ws 19 (aI, .inr (6, [.ref aIA, .int 0, .int 0])) → zA ws 20 (aIA, .inl (cI, N_IA, .inl (fun _ => 0))) → zA ws 21 (aX, .inr (7, [.int 0, .int sd, .ref aXpicture, .ref aXhalf, .int 0, .ref aXblocks, .int 0, .int 0, .ref aXencoded, .int 0, .ref aXfed, .int 0, .int 0, .int 0, .int 0, .ref aXpile, .int 0, .ref aXnews, .ref aXolds, .ref aXhalves, .ref aXds, .ref aXrs, .ref aXbest, .long 0])) → zA ws 22 (aXpicture, .inl (cI, 1024, .inl (fun _ => 0))) → zA ws 23 (aXhalf, .inl (cI, 256, .inl (fun _ => 0))) → zA ws 24 (aXblocks, .inl (cI, 4096, .inl (fun _ => 0))) → zA ws 25 (aXencoded, .inl (cI, 2000, .inl (fun _ => 0))) → zA ws 26 (aXfed, .inl (cI, 2000, .inl (fun _ => 0))) → zA ws 27 (aXpile, .inl (cI, 96, .inl (fun _ => 0))) → zA ws 28 (aXnews, .inl (cI, 4096, .inl (fun _ => 0))) → zA ws 29 (aXolds, .inl (cI, 4096, .inl (fun _ => 0))) → zA ws 30 (aXhalves, .inl (cI, 1024, .inl (fun _ => 0))) → zA ws 31 (aXds, .inl (cI, 256, .inl (fun _ => 0))) → zA ws 32 (aXrs, .inl (cI, 256, .inl (fun _ => 0))) → zA ws 33 (aXbest, .inl (cI, 4, .inl (fun _ => 0))) → zA ws 34 (aOUT, .inl (cL, 1, .inr (.inl (fun _ => 0)))) → W p l e room_1 s m #[Value.ref b] below meth c H locs 35 39682 Q (F0 m 33 ls [])) : W p l e room_1 s m #[Value.ref b] below meth c s.heap [] 0 0 Q (F0 m 0 ls []) := by
  obtain ⟨hfl, hx, hb, hml, hown, hts, hK, hZ, hX, hXs, hbl, hbA, hA, hA2⟩ := fx
  have hS : va_S A s.heap s.heap [] := va_S.rf
  have hP : va_P (dC, dI) classes ([] : va_W) s.heap := fun k q h => by cases h
  have hD : va_D A ([] : va_W) := ⟨fun i j x y h => (by cases h), fun k q h => (by cases h)⟩
  have hlen : ([] : va_W).length = 0 := rfl
  refine z_new (ci := 0) (C := "FractalMaps") (T := F_F) (N := 10) hx hb hts i_F ty_F ty_F_ok hown k_54 k_55 k_37 hK hP hD hS hA hlen rfl df_F (Nat.le_of_ble_eq_true rfl) (Nat.le_of_ble_eq_true rfl) d_L_law_0 (fun ws aO H hP hD hS hlen hN_O hfr => ?_)
  have hlen : ws.length = 1 := hlen
  refine lv_dup hx hb d_L_law_3 rfl ?_
  refine lv_aload_n hx hb d_L_law_4 rfl (lv_at hl 0 rfl) ?_
  refine lv_iconst (v := 0) hx hb d_L_law_5 (by decide) ?_
  refine vp_callSi (z_cr (va_runS (As := [.ref b, .int (0 : Int32)]) (rest := [.ref aO, .ref aO]) ⟨hx, hb, hml, hown, hts⟩ (c_L_cell l b L xs) (cw_L_56 hts ⟨(Nat.le_of_ble_eq_true rfl), (Nat.le_of_ble_eq_true rfl)⟩) ⟨zbC, zpC hXs hbl hbA hS⟩ rfl rfl hl.1 rfl (lv_room (Nat.le_of_ble_eq_true rfl)) d_L_law_6 ⟨(Nat.le_of_ble_eq_true rfl), (Nat.le_of_ble_eq_true rfl)⟩)) (fun r0 hv => ?_)
  obtain rfl : x0 = r0 := (hx0 r0 hv).symm
  have hFc := z_free hD hS hA
  refine va_callv (va_runI (As := [.int x0]) (rest := [.ref aO]) ⟨hx, hb, hml, hown, hts⟩ (c_F_init l dC dI cI cL _ x0 sd hsd hN_O hlen e1_PA e2_PA e3_PA e1_NA e2_NA e3_NA e1_HA e2_HA e3_HA e1_W e2_W e3_W e1_D e2_D e3_D e1_KA e2_KA e3_KA e1_CA e2_CA e3_CA e1_IA e2_IA e3_IA) (cw_L_62 hts ⟨(Nat.le_of_ble_eq_true rfl), (Nat.le_of_ble_eq_true rfl)⟩) ⟨zbM, zpM hP hK hZ hD⟩ rfl rfl hl.1 rfl (lv_room (Nat.le_of_ble_eq_true rfl)) d_L_law_9 ⟨(Nat.le_of_ble_eq_true rfl), (Nat.le_of_ble_eq_true rfl)⟩) hS (fun q _ h => hFc q h) hFc (fun ws t H locs ht hvm hu hB hz1 hk1 hS => ?_)
  obtain ⟨hlen, ⟨aP, aPA, aN, aNA, aH, aHA, aV, aS, aW, aD, aQ, aR, aE, aK, aKA, aT, aC, aCA, aI, aIA, hN_O, hN_P, hN_PA, hN_N, hN_NA, hN_H, hN_HA, hN_V, hN_S, hN_W, hN_D, hN_Q, hN_R, hN_E, hN_K, hN_KA, hN_T, hN_C, hN_CA, hN_I, hN_IA⟩, hfr⟩ := hu
  obtain ⟨hP, -, hD1⟩ := hB
  rw [ht] at hP
  have hD := hD1.weaken (fun _ _ _ h => hFc _ h)
  refine lv_astore_n (lv' := [(1, .ref aO), (0, .ref b)]) hx hb d_L_law_12 rfl hl (by decide) rfl (fun ls hl => ?_)
  have hlen : ws.length = 21 := hlen
  refine z_new (ci := 7) (C := "FractalMapsModel") (T := F_M) (N := 24) hx hb hts i_M ty_M ty_M_ok hown k_749 k_750 k_45 hK hP hD hS hA hlen rfl df_M (Nat.le_of_ble_eq_true rfl) (Nat.le_of_ble_eq_true rfl) d_L_law_13 (fun ws aX H hP hD hS hlen hN_X hfr => ?_)
  have hN_O := (hfr _ (by decide)).trans hN_O
  have hN_P := (hfr _ (by decide)).trans hN_P
  have hN_PA := (hfr _ (by decide)).trans hN_PA
  have hN_N := (hfr _ (by decide)).trans hN_N
  have hN_NA := (hfr _ (by decide)).trans hN_NA
  have hN_H := (hfr _ (by decide)).trans hN_H
  have hN_HA := (hfr _ (by decide)).trans hN_HA
  have hN_V := (hfr _ (by decide)).trans hN_V
  have hN_S := (hfr _ (by decide)).trans hN_S
  have hN_W := (hfr _ (by decide)).trans hN_W
  have hN_D := (hfr _ (by decide)).trans hN_D
  have hN_Q := (hfr _ (by decide)).trans hN_Q
  have hN_R := (hfr _ (by decide)).trans hN_R
  have hN_E := (hfr _ (by decide)).trans hN_E
  have hN_K := (hfr _ (by decide)).trans hN_K
  have hN_KA := (hfr _ (by decide)).trans hN_KA
  have hN_T := (hfr _ (by decide)).trans hN_T
  have hN_C := (hfr _ (by decide)).trans hN_C
  have hN_CA := (hfr _ (by decide)).trans hN_CA
  have hN_I := (hfr _ (by decide)).trans hN_I
  have hN_IA := (hfr _ (by decide)).trans hN_IA
  have hlen : ws.length = 22 := hlen
  refine lv_dup hx hb d_L_law_16 rfl ?_
  refine lv_aload_n hx hb d_L_law_17 rfl (lv_at hl 1 rfl) ?_
  refine lv_iconst (v := 0) hx hb d_L_law_18 (by decide) ?_
  refine vp_callSi (z_cr (va_runS (As := [.ref b, .int (0 : Int32)]) (rest := [.ref aX, .ref aX]) ⟨hx, hb, hml, hown, hts⟩ (c_L_cell l b L xs) (cw_L_56 hts ⟨(Nat.le_of_ble_eq_true rfl), (Nat.le_of_ble_eq_true rfl)⟩) ⟨zbC, zpC hXs hbl hbA hS⟩ rfl rfl hl.1 rfl (lv_room (Nat.le_of_ble_eq_true rfl)) d_L_law_19 ⟨(Nat.le_of_ble_eq_true rfl), (Nat.le_of_ble_eq_true rfl)⟩)) (fun r0 hv => ?_)
  obtain rfl : x0 = r0 := (hx0 r0 hv).symm
  have hFc := z_free hD hS hA
  refine va_callv (va_runI (As := [.int x0]) (rest := [.ref aX]) ⟨hx, hb, hml, hown, hts⟩ (c_M_init l dC dI cI cL _ x0 sd hsd0 hsd1 hsd2 hN_X hlen) (cw_L_67 hts ⟨(Nat.le_of_ble_eq_true rfl), (Nat.le_of_ble_eq_true rfl)⟩) ⟨zbM, zpM hP hK hZ hD⟩ rfl rfl hl.1 rfl (lv_room (Nat.le_of_ble_eq_true rfl)) d_L_law_22 ⟨(Nat.le_of_ble_eq_true rfl), (Nat.le_of_ble_eq_true rfl)⟩) hS (fun q _ h => hFc q h) hFc (fun ws t H locs ht hvm hu hB hz1 hk1 hS => ?_)
  obtain ⟨hlen, ⟨aXpicture, aXhalf, aXblocks, aXencoded, aXfed, aXpile, aXnews, aXolds, aXhalves, aXds, aXrs, aXbest, hN_X, hN_Xpicture, hN_Xhalf, hN_Xblocks, hN_Xencoded, hN_Xfed, hN_Xpile, hN_Xnews, hN_Xolds, hN_Xhalves, hN_Xds, hN_Xrs, hN_Xbest⟩, hfr⟩ := hu
  obtain ⟨hP, -, hD1⟩ := hB
  rw [ht] at hP
  have hD := hD1.weaken (fun _ _ _ h => hFc _ h)
  have hN_O := (hfr _ (by decide) (by decide)).trans hN_O
  have hN_P := (hfr _ (by decide) (by decide)).trans hN_P
  have hN_PA := (hfr _ (by decide) (by decide)).trans hN_PA
  have hN_N := (hfr _ (by decide) (by decide)).trans hN_N
  have hN_NA := (hfr _ (by decide) (by decide)).trans hN_NA
  have hN_H := (hfr _ (by decide) (by decide)).trans hN_H
  have hN_HA := (hfr _ (by decide) (by decide)).trans hN_HA
  have hN_V := (hfr _ (by decide) (by decide)).trans hN_V
  have hN_S := (hfr _ (by decide) (by decide)).trans hN_S
  have hN_W := (hfr _ (by decide) (by decide)).trans hN_W
  have hN_D := (hfr _ (by decide) (by decide)).trans hN_D
  have hN_Q := (hfr _ (by decide) (by decide)).trans hN_Q
  have hN_R := (hfr _ (by decide) (by decide)).trans hN_R
  have hN_E := (hfr _ (by decide) (by decide)).trans hN_E
  have hN_K := (hfr _ (by decide) (by decide)).trans hN_K
  have hN_KA := (hfr _ (by decide) (by decide)).trans hN_KA
  have hN_T := (hfr _ (by decide) (by decide)).trans hN_T
  have hN_C := (hfr _ (by decide) (by decide)).trans hN_C
  have hN_CA := (hfr _ (by decide) (by decide)).trans hN_CA
  have hN_I := (hfr _ (by decide) (by decide)).trans hN_I
  have hN_IA := (hfr _ (by decide) (by decide)).trans hN_IA
  refine lv_astore_n (lv' := [(2, .ref aX), (1, .ref aO), (0, .ref b)]) hx hb d_L_law_25 rfl hl (by decide) rfl (fun ls hl => ?_)
  refine lv_iconst (v := 1) hx hb d_L_law_26 (by decide) ?_
  refine z_newl (N := 1) (B := 1) hx hb (hts _ k_998) hK hP hD hS hA hlen (by decide) (by decide) (by decide) (by decide) (Nat.le_of_ble_eq_true rfl) (Nat.le_of_ble_eq_true rfl) d_L_law_27 (fun ws aOUT H hP hD hS hlen hN_OUT hfr => ?_)
  have hN_O := (hfr _ (by decide)).trans hN_O
  have hN_P := (hfr _ (by decide)).trans hN_P
  have hN_PA := (hfr _ (by decide)).trans hN_PA
  have hN_N := (hfr _ (by decide)).trans hN_N
  have hN_NA := (hfr _ (by decide)).trans hN_NA
  have hN_H := (hfr _ (by decide)).trans hN_H
  have hN_HA := (hfr _ (by decide)).trans hN_HA
  have hN_V := (hfr _ (by decide)).trans hN_V
  have hN_S := (hfr _ (by decide)).trans hN_S
  have hN_W := (hfr _ (by decide)).trans hN_W
  have hN_D := (hfr _ (by decide)).trans hN_D
  have hN_Q := (hfr _ (by decide)).trans hN_Q
  have hN_R := (hfr _ (by decide)).trans hN_R
  have hN_E := (hfr _ (by decide)).trans hN_E
  have hN_K := (hfr _ (by decide)).trans hN_K
  have hN_KA := (hfr _ (by decide)).trans hN_KA
  have hN_T := (hfr _ (by decide)).trans hN_T
  have hN_C := (hfr _ (by decide)).trans hN_C
  have hN_CA := (hfr _ (by decide)).trans hN_CA
  have hN_I := (hfr _ (by decide)).trans hN_I
  have hN_IA := (hfr _ (by decide)).trans hN_IA
  have hN_X := (hfr _ (by decide)).trans hN_X
  have hN_Xpicture := (hfr _ (by decide)).trans hN_Xpicture
  have hN_Xhalf := (hfr _ (by decide)).trans hN_Xhalf
  have hN_Xblocks := (hfr _ (by decide)).trans hN_Xblocks
  have hN_Xencoded := (hfr _ (by decide)).trans hN_Xencoded
  have hN_Xfed := (hfr _ (by decide)).trans hN_Xfed
  have hN_Xpile := (hfr _ (by decide)).trans hN_Xpile
  have hN_Xnews := (hfr _ (by decide)).trans hN_Xnews
  have hN_Xolds := (hfr _ (by decide)).trans hN_Xolds
  have hN_Xhalves := (hfr _ (by decide)).trans hN_Xhalves
  have hN_Xds := (hfr _ (by decide)).trans hN_Xds
  have hN_Xrs := (hfr _ (by decide)).trans hN_Xrs
  have hN_Xbest := (hfr _ (by decide)).trans hN_Xbest
  refine lv_astore_n (lv' := [(3, .ref aOUT), (2, .ref aX), (1, .ref aO), (0, .ref b)]) hx hb d_L_law_29 rfl hl (by decide) rfl (fun ls hl => ?_)
  refine lv_iconst (v := 1) hx hb d_L_law_30 (by decide) ?_
  refine lv_istore (lv' := [(4, .int (1 : Int32)), (3, .ref aOUT), (2, .ref aX), (1, .ref aO), (0, .ref b)]) hx hb d_L_law_31 hl (by decide) rfl (fun ls hl => ?_)
  exact kt aO aP aPA aN aNA aH aHA aV aS aW aD aQ aR aE aK aKA aT aC aCA aI aIA aX aXpicture aXhalf aXblocks aXencoded aXfed aXpile aXnews aXolds aXhalves aXds aXrs aXbest aOUT _ _ _ ls (lv_sub hl [4, 3, 2, 1, 0] rfl) hP hD hS hN_O hN_P hN_PA hN_N hN_NA hN_H hN_HA hN_V hN_S hN_W hN_D hN_Q hN_R hN_E hN_K hN_KA hN_T hN_C hN_CA hN_I hN_IA hN_X hN_Xpicture hN_Xhalf hN_Xblocks hN_Xencoded hN_Xfed hN_Xpile hN_Xnews hN_Xolds hN_Xhalves hN_Xds hN_Xrs hN_Xbest hN_OUT
