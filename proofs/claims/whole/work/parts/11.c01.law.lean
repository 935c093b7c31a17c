def f_LW_5 (a1 : Int32) (I_filled : Int32) (IA_n : Nat) (IA_f : Nat → Int32) (X_code : Int32) (X_fedMany : Int32) (Xfed_n : Nat) (Xfed_f : Nat → Int32) (OUT_n : Nat) (OUT_f : Nat → Int64) : Option (Int32 × (Nat → Int32) × Int32 × Int32 × (Nat → Int32) × (Nat → Int64)) := (f_L_feed a1 I_filled IA_n IA_f OUT_n OUT_f).bind (fun q1143 => (f_M_feed a1 X_code X_fedMany Xfed_n Xfed_f).bind (fun q1144 => (f_M_thrown q1144.2.1).bind (fun q1145 => if q1145 = q1143.1 then (if q1143.1 = 0 then (if (0 : Int32) < 0 ∨ OUT_n ≤ (0 : Int32).toNatClampNeg then none else (if (lg_cmp (q1143.2.2.2 (0 : Int32).toNatClampNeg) q1144.1.toInt64) = 0 then (some (q1143.2.1, q1143.2.2.1, q1144.2.1, q1144.2.2.1, q1144.2.2.2, q1143.2.2.2)) else (none))) else (some (q1143.2.1, q1143.2.2.1, q1144.2.1, q1144.2.2.1, q1144.2.2.2, q1143.2.2.2))) else (none))))
set_option maxHeartbeats 4000000 in
set_option maxRecDepth 100000 in
theorem lc_5 {p : Program} {l : Launch} {e : Env} {s : State} {m : MethodId} {below : List Frame} {meth : Method} {c : Code} {b L : Nat} {xs : Nat → Int32} {dC : Nat → ClassId} {dI : Nat → Nat → Nat} {cI cL : ClassId} {A : Nat → Prop} {Q : State → Prop} {ws0 : va_W} {H : Heap} {locs : List Loc} {cells slots : Nat} {ls : Array Slot} {v4 : Int32} {aO aP aN aH aV aS aK aT aC aI aIA aX aXpicture aXhalf aXblocks aXencoded aXfed aXpile aXnews aXolds aXhalves aXds aXrs aXbest aOUT : Nat} {O_side : Int32} {I_filled : Int32} {I_taken : Int32} {IA_n : Nat} {IA_f : Nat → Int32} {X_code : Int32} {X_side : Int32} {X_many : Int32} {X_found : Int32} {X_encodedBits : Int32} {X_fedMany : Int32} {X_readAt : Int32} {X_why : Int32} {X_tried : Int32} {X_waiting : Int32} {X_decoded : Int32} {X_bestError : Int64} {Xfed_n : Nat} {Xfed_f : Nat → Int32} {OUT_n : Nat} {OUT_f : Nat → Int64} (fx : lwFix p l s m c b L xs dC dI cI cL A) (hc1 : cells + 1 ≤ room_1.cells) (hc2 : slots + 6 ≤ room_1.slots) (hl : lv_has ls 8 [(0, .ref b), (1, .ref aO), (2, .ref aX), (3, .ref aOUT), (4, .int v4)]) (hP : va_P (dC, dI) classes ws0 H) (hD : va_D A ws0) (hS : va_S A s.heap H locs) (hN_O : zA ws0 0 (aO, .inr (0, [.int O_side, .ref aP, .ref aN, .ref aH, .ref aV, .ref aS, .ref aK, .ref aT, .ref aC, .ref aI]))) (hN_I : zA ws0 19 (aI, .inr (6, [.ref aIA, .int I_filled, .int I_taken]))) (hN_IA : zA ws0 20 (aIA, .inl (cI, IA_n, .inl IA_f))) (hN_X : zA ws0 21 (aX, .inr (7, [.int X_code, .int X_side, .ref aXpicture, .ref aXhalf, .int X_many, .ref aXblocks, .int X_found, .int X_encodedBits, .ref aXencoded, .int X_fedMany, .ref aXfed, .int X_readAt, .int X_why, .int X_tried, .int X_waiting, .ref aXpile, .int X_decoded, .ref aXnews, .ref aXolds, .ref aXhalves, .ref aXds, .ref aXrs, .ref aXbest, .long X_bestError]))) (hN_Xfed : zA ws0 26 (aXfed, .inl (cI, Xfed_n, .inl Xfed_f))) (hN_OUT : zA ws0 34 (aOUT, .inl (cL, OUT_n, .inr (.inl OUT_f)))) (hin1 : vp_in (v4 + (1 : Int32)) L) (r : Int32 × (Nat → Int32) × Int32 × Int32 × (Nat → Int32) × (Nat → Int64)) (hf : f_LW_5 (xs (v4 + (1 : Int32)).toNatClampNeg) I_filled IA_n IA_f X_code X_fedMany Xfed_n Xfed_f OUT_n OUT_f = some r) (kt : ∀ (ws : va_W) (H : Heap) (locs : List Loc) (ls : Array Slot) (ce sl : Nat), ce ≤ cells + 1 → sl ≤ slots + 6 → lv_has ls 8 [(0, .ref b), (1, .ref aO), (2, .ref aX), (3, .ref aOUT), (4, .int v4)] → va_P (dC, dI) classes ws H → va_D A ws → va_S A s.heap H locs → zA ws 19 (aI, .inr (6, [.ref aIA, .int r.1, .int I_taken])) → zA ws 20 (aIA, .inl (cI, IA_n, .inl r.2.1)) → zA ws 21 (aX, .inr (7, [.int r.2.2.1, .int X_side, .ref aXpicture, .ref aXhalf, .int X_many, .ref aXblocks, .int X_found, .int X_encodedBits, .ref aXencoded, .int r.2.2.2.1, .ref aXfed, .int X_readAt, .int X_why, .int X_tried, .int X_waiting, .ref aXpile, .int X_decoded, .ref aXnews, .ref aXolds, .ref aXhalves, .ref aXds, .ref aXrs, .ref aXbest, .long X_bestError])) → zA ws 26 (aXfed, .inl (cI, Xfed_n, .inl r.2.2.2.2.1)) → zA ws 34 (aOUT, .inl (cL, OUT_n, .inr (.inl r.2.2.2.2.2))) → (∀ (j : Nat), j ∉ ([19, 20, 21, 26, 34] : List Nat) → ws[j]? = ws0[j]?) → W p l e room_1 s m #[Value.ref b] below meth c H locs ce sl Q (F0 m 974 ls [])) : W p l e room_1 s m #[Value.ref b] below meth c H locs cells slots Q (F0 m 449 ls []) := by
  obtain ⟨hfl, hx, hb, hml, hown, hts, hK, hZ, hX, hXs, hbl, hbA, hA, hA2⟩ := fx
  have hc10 : cells ≤ room_1.cells := Nat.le_of_succ_le hc1
  have hc20 : slots ≤ room_1.slots := Nat.le_trans (Nat.le_add_right _ _) hc2
  have hw : ∀ (j : Nat), j ∉ ([19, 20, 21, 26, 34] : List Nat) → ws0[j]? = ws0[j]? := fun _ _ => rfl
  unfold f_LW_5 at hf
  refine lv_aload_n hx hb d_L_law_449 rfl (lv_at hl 1 rfl) ?_
  refine lv_aload_n hx hb d_L_law_450 rfl (lv_at hl 0 rfl) ?_
  refine lv_iload hx hb d_L_law_451 (lv_at hl 4 rfl) ?_
  refine lv_iconst (v := 1) hx hb d_L_law_453 (by decide) ?_
  refine lv_iadd hx hb d_L_law_454 ?_
  refine va_sld hx hb hXs hbl hbA hS hin1 d_L_law_455 ?_
  refine lv_aload_n hx hb d_L_law_456 rfl (lv_at hl 3 rfl) ?_
  obtain ⟨q1143, hc, hf⟩ := z_b hf
  have hFc := z_free hD hS hA
  refine va_calli (z_runSW (As := [.ref aO, .int (xs (v4 + (1 : Int32)).toNatClampNeg), .ref aOUT]) (rest := []) ⟨hx, hb, hml, hown, hts⟩ (c_L_feed l hfl dC dI cI cL _ (xs (v4 + (1 : Int32)).toNatClampNeg) hN_O hN_I hN_IA hN_OUT q1143 hc) (cw_L_90 hts ⟨Nat.le_of_ble_eq_true rfl, Nat.le_of_ble_eq_true rfl⟩) ⟨zbT, zpT hP hK hZ hD hX (z_keep hA2 hS)⟩ rfl rfl hl.1 rfl (lv_room (Nat.le_of_ble_eq_true rfl)) d_L_law_457 ⟨hc1, hc2⟩) hS (fun q _ h => hFc q h) hFc (fun rv ws t H locs ht hvm hu hB hz1 hk1 hS => ?_)
  obtain ⟨hv, hN_I, hN_IA, hN_OUT, hfr⟩ := hu
  have hv := hv.symm
  subst hv
  obtain ⟨hP, -, hD1⟩ := hB
  rw [ht] at hP
  have hD := hD1.weaken (fun _ _ _ h => hFc _ h)
  have hN_I : zA ws 19 (aI, .inr (6, [.ref aIA, .int q1143.2.1, .int I_taken])) := hN_I
  have hN_IA : zA ws 20 (aIA, .inl (cI, IA_n, .inl q1143.2.2.1)) := hN_IA
  have hN_OUT : zA ws 34 (aOUT, .inl (cL, OUT_n, .inr (.inl q1143.2.2.2))) := hN_OUT
  have hN_O := (hfr _ (by decide)).trans hN_O
  have hN_X := (hfr _ (by decide)).trans hN_X
  have hN_Xfed := (hfr _ (by decide)).trans hN_Xfed
  have hw := z_frC (by decide) hw hfr
  refine lv_istore (lv' := [(5, .int q1143.1), (0, .ref b), (1, .ref aO), (2, .ref aX), (3, .ref aOUT), (4, .int v4)]) hx hb d_L_law_460 hl (by decide) rfl (fun ls hl => ?_)
  refine lv_aload_n hx hb d_L_law_462 rfl (lv_at hl 3 rfl) ?_
  refine lv_aload_n hx hb d_L_law_463 rfl (lv_at hl 1 rfl) ?_
  refine lv_iload hx hb d_L_law_464 (lv_at hl 5 rfl) ?_
  refine lv_iconst (v := 1) hx hb d_L_law_466 (by decide) ?_
  refine lv_iadd hx hb d_L_law_467 ?_
  refine va_sld hx hb hXs hbl hbA hS hin1 d_L_law_468 ?_
  obtain ⟨q1144, hc, hf⟩ := z_b hf
  have hFc := z_free hD hS hA
  refine va_calli (va_runV (As := [.int (xs (v4 + (1 : Int32)).toNatClampNeg)]) (rest := []) ⟨hx, hb, hml, hown, hts⟩ (c_M_feed l dC dI cI cL _ (xs (v4 + (1 : Int32)).toNatClampNeg) hN_X hN_Xfed q1144 hc) (cw_L_92 hts ⟨Nat.le_of_ble_eq_true rfl, Nat.le_of_ble_eq_true rfl⟩) ⟨zbM, va_recv hK hP (ci := 7) rfl hN_X, (zpM hP hK hZ hD)⟩ rfl rfl hl.1 rfl (lv_room (Nat.le_of_ble_eq_true rfl)) d_L_law_469 ⟨hc1, hc2⟩) hS (fun q _ h => hFc q h) hFc (fun rv ws t H locs ht hvm hu hB hz1 hk1 hS => ?_)
  obtain ⟨hv, hN_X, hN_Xfed, hfr⟩ := hu
  subst hv
  obtain ⟨hP, -, hD1⟩ := hB
  rw [ht] at hP
  have hD := hD1.weaken (fun _ _ _ h => hFc _ h)
  have hN_X : zA ws 21 (aX, .inr (7, [.int q1144.2.1, .int X_side, .ref aXpicture, .ref aXhalf, .int X_many, .ref aXblocks, .int X_found, .int X_encodedBits, .ref aXencoded, .int q1144.2.2.1, .ref aXfed, .int X_readAt, .int X_why, .int X_tried, .int X_waiting, .ref aXpile, .int X_decoded, .ref aXnews, .ref aXolds, .ref aXhalves, .ref aXds, .ref aXrs, .ref aXbest, .long X_bestError])) := hN_X
  have hN_Xfed : zA ws 26 (aXfed, .inl (cI, Xfed_n, .inl q1144.2.2.2)) := hN_Xfed
  have hN_O := (hfr _ (by decide)).trans hN_O
  have hN_I := (hfr _ (by decide)).trans hN_I
  have hN_IA := (hfr _ (by decide)).trans hN_IA
  have hN_OUT := (hfr _ (by decide)).trans hN_OUT
  have hw := z_frC (by decide) hw hfr
  refine lv_istore (lv' := [(6, .int q1144.1), (5, .int q1143.1), (0, .ref b), (1, .ref aO), (2, .ref aX), (3, .ref aOUT), (4, .int v4)]) hx hb d_L_law_472 hl (by decide) rfl (fun ls hl => ?_)
  refine lv_aload_n hx hb d_L_law_474 rfl (lv_at hl 4 rfl) ?_
  obtain ⟨q1145, hc, hf⟩ := z_b hf
  refine vp_callSi (z_cr (va_runV (As := []) (rest := []) ⟨hx, hb, hml, hown, hts⟩ (c_M_thrown l dC dI cI cL hN_X q1145 hc) (cw_L_72 hts ⟨Nat.le_of_ble_eq_true rfl, Nat.le_of_ble_eq_true rfl⟩) ⟨zbR, va_recv hK hP (ci := 7) rfl hN_X, (zpR hP hK hZ)⟩ rfl rfl hl.1 rfl (lv_room (Nat.le_of_ble_eq_true rfl)) d_L_law_475 ⟨hc1, hc2⟩)) (fun r1146 hv => ?_)
  have hv := hv.symm
  subst hv
  refine lv_iload hx hb d_L_law_478 (lv_at hl 1 rfl) ?_
  refine lv_icmp_eq (tgt := 485) hx hb d_L_law_480 (by decide) (fun hc => ?_) (fun hc => ?_)
  · have hf := z_t hc hf
    refine lv_iload hx hb d_L_law_485 (lv_at hl 1 rfl) ?_
    refine lv_if_ne (tgt := 502) hx hb d_L_law_487 (by decide) (fun hc => ?_) (fun hc => ?_)
    · have hf := z_f hc hf
      refine lv_goto (tgt := 974) hx hb d_L_law_502 (by decide) ?_
      obtain rfl := Option.some.inj hf
      exact kt _ _ _ ls _ _ (Nat.le_refl _) (Nat.le_refl _) (lv_sub hl [2, 3, 4, 5, 6] rfl) hP hD hS hN_I hN_IA hN_X hN_Xfed hN_OUT hw
    · have hf := z_t hc hf
      refine lv_aload_n hx hb d_L_law_490 rfl (lv_at hl 5 rfl) ?_
      refine lv_iconst (v := 0) hx hb d_L_law_491 (by decide) ?_
      obtain ⟨hin, hf⟩ := z_no hf
      refine va_lald hx hb hK hP _ 1 hN_OUT rfl hin d_L_law_492 ?_
      refine lv_iload hx hb d_L_law_493 (lv_at hl 0 rfl) ?_
      refine lv_i2l hx hb d_L_law_495 rfl ?_
      refine W.lcmp hx hb d_L_law_496 ?_
      refine lv_if_eq (tgt := 502) hx hb d_L_law_497 (by decide) (fun hc => ?_) (fun hc => ?_)
      · have hf := z_t hc hf
        refine lv_goto (tgt := 974) hx hb d_L_law_502 (by decide) ?_
        obtain rfl := Option.some.inj hf
        exact kt _ _ _ ls _ _ (Nat.le_refl _) (Nat.le_refl _) (lv_sub hl [2, 3, 4, 5, 6] rfl) hP hD hS hN_I hN_IA hN_X hN_Xfed hN_OUT hw
      · have hf := z_f hc hf
        refine lv_iconst (v := 0) hx hb d_L_law_500 (by decide) ?_
        cases hf
  · have hf := z_f hc hf
    refine lv_iconst (v := 0) hx hb d_L_law_483 (by decide) ?_
    cases hf
def f_LW_6 (C_filled : Int32) (CA_n : Nat) (CA_f : Nat → Int32) (I_filled : Int32) (IA_n : Nat) (IA_f : Nat → Int32) (X_code : Int32) (X_encodedBits : Int32) (X_fedMany : Int32) (Xencoded_n : Nat) (Xencoded_f : Nat → Int32) (Xfed_n : Nat) (Xfed_f : Nat → Int32) (OUT_n : Nat) (OUT_f : Nat → Int64) : Option (Int32 × (Nat → Int32) × Int32 × Int32 × (Nat → Int32) × (Nat → Int64)) := (f_L_pass C_filled CA_n CA_f I_filled IA_n IA_f OUT_n OUT_f).bind (fun q1147 => (f_M_pass X_code X_encodedBits X_fedMany Xencoded_n Xencoded_f Xfed_n Xfed_f).bind (fun q1148 => (f_M_thrown q1148.2.1).bind (fun q1149 => if q1149 = q1147.1 then (if q1147.1 = 0 then (if (0 : Int32) < 0 ∨ OUT_n ≤ (0 : Int32).toNatClampNeg then none else (if (lg_cmp (q1147.2.2.2 (0 : Int32).toNatClampNeg) q1148.1.toInt64) = 0 then (some (q1147.2.1, q1147.2.2.1, q1148.2.1, q1148.2.2.1, q1148.2.2.2, q1147.2.2.2)) else (none))) else (some (q1147.2.1, q1147.2.2.1, q1148.2.1, q1148.2.2.1, q1148.2.2.2, q1147.2.2.2))) else (none))))
set_option maxHeartbeats 4000000 in
set_option maxRecDepth 100000 in
theorem lc_6 {p : Program} {l : Launch} {e : Env} {s : State} {m : MethodId} {below : List Frame} {meth : Method} {c : Code} {b L : Nat} {xs : Nat → Int32} {dC : Nat → ClassId} {dI : Nat → Nat → Nat} {cI cL : ClassId} {A : Nat → Prop} {Q : State → Prop} {ws0 : va_W} {H : Heap} {locs : List Loc} {cells slots : Nat} {ls : Array Slot} {v4 : Int32} {aO aP aN aH aV aS aK aT aC aI aCA aIA aX aXpicture aXhalf aXblocks aXencoded aXfed aXpile aXnews aXolds aXhalves aXds aXrs aXbest aOUT : Nat} {O_side : Int32} {C_filled : Int32} {C_taken : Int32} {CA_n : Nat} {CA_f : Nat → Int32} {I_filled : Int32} {I_taken : Int32} {IA_n : Nat} {IA_f : Nat → Int32} {X_code : Int32} {X_side : Int32} {X_many : Int32} {X_found : Int32} {X_encodedBits : Int32} {X_fedMany : Int32} {X_readAt : Int32} {X_why : Int32} {X_tried : Int32} {X_waiting : Int32} {X_decoded : Int32} {X_bestError : Int64} {Xencoded_n : Nat} {Xencoded_f : Nat → Int32} {Xfed_n : Nat} {Xfed_f : Nat → Int32} {OUT_n : Nat} {OUT_f : Nat → Int64} (fx : lwFix p l s m c b L xs dC dI cI cL A) (hc1 : cells + 1 ≤ room_1.cells) (hc2 : slots + 6 ≤ room_1.slots) (hl : lv_has ls 8 [(0, .ref b), (1, .ref aO), (2, .ref aX), (3, .ref aOUT), (4, .int v4)]) (hP : va_P (dC, dI) classes ws0 H) (hD : va_D A ws0) (hS : va_S A s.heap H locs) (hN_O : zA ws0 0 (aO, .inr (0, [.int O_side, .ref aP, .ref aN, .ref aH, .ref aV, .ref aS, .ref aK, .ref aT, .ref aC, .ref aI]))) (hN_C : zA ws0 17 (aC, .inr (6, [.ref aCA, .int C_filled, .int C_taken]))) (hN_CA : zA ws0 18 (aCA, .inl (cI, CA_n, .inl CA_f))) (hN_I : zA ws0 19 (aI, .inr (6, [.ref aIA, .int I_filled, .int I_taken]))) (hN_IA : zA ws0 20 (aIA, .inl (cI, IA_n, .inl IA_f))) (hN_X : zA ws0 21 (aX, .inr (7, [.int X_code, .int X_side, .ref aXpicture, .ref aXhalf, .int X_many, .ref aXblocks, .int X_found, .int X_encodedBits, .ref aXencoded, .int X_fedMany, .ref aXfed, .int X_readAt, .int X_why, .int X_tried, .int X_waiting, .ref aXpile, .int X_decoded, .ref aXnews, .ref aXolds, .ref aXhalves, .ref aXds, .ref aXrs, .ref aXbest, .long X_bestError]))) (hN_Xencoded : zA ws0 25 (aXencoded, .inl (cI, Xencoded_n, .inl Xencoded_f))) (hN_Xfed : zA ws0 26 (aXfed, .inl (cI, Xfed_n, .inl Xfed_f))) (hN_OUT : zA ws0 34 (aOUT, .inl (cL, OUT_n, .inr (.inl OUT_f)))) (r : Int32 × (Nat → Int32) × Int32 × Int32 × (Nat → Int32) × (Nat → Int64)) (hf : f_LW_6 C_filled CA_n CA_f I_filled IA_n IA_f X_code X_encodedBits X_fedMany Xencoded_n Xencoded_f Xfed_n Xfed_f OUT_n OUT_f = some r) (kt : ∀ (ws : va_W) (H : Heap) (locs : List Loc) (ls : Array Slot) (ce sl : Nat), ce ≤ cells + 1 → sl ≤ slots + 6 → lv_has ls 8 [(0, .ref b), (1, .ref aO), (2, .ref aX), (3, .ref aOUT), (4, .int v4)] → va_P (dC, dI) classes ws H → va_D A ws → va_S A s.heap H locs → zA ws 19 (aI, .inr (6, [.ref aIA, .int r.1, .int I_taken])) → zA ws 20 (aIA, .inl (cI, IA_n, .inl r.2.1)) → zA ws 21 (aX, .inr (7, [.int r.2.2.1, .int X_side, .ref aXpicture, .ref aXhalf, .int X_many, .ref aXblocks, .int X_found, .int X_encodedBits, .ref aXencoded, .int r.2.2.2.1, .ref aXfed, .int X_readAt, .int X_why, .int X_tried, .int X_waiting, .ref aXpile, .int X_decoded, .ref aXnews, .ref aXolds, .ref aXhalves, .ref aXds, .ref aXrs, .ref aXbest, .long X_bestError])) → zA ws 26 (aXfed, .inl (cI, Xfed_n, .inl r.2.2.2.2.1)) → zA ws 34 (aOUT, .inl (cL, OUT_n, .inr (.inl r.2.2.2.2.2))) → (∀ (j : Nat), j ∉ ([19, 20, 21, 26, 34] : List Nat) → ws[j]? = ws0[j]?) → W p l e room_1 s m #[Value.ref b] below meth c H locs ce sl Q (F0 m 974 ls [])) : W p l e room_1 s m #[Value.ref b] below meth c H locs cells slots Q (F0 m 505 ls []) := by
  obtain ⟨hfl, hx, hb, hml, hown, hts, hK, hZ, hX, hXs, hbl, hbA, hA, hA2⟩ := fx
  have hc10 : cells ≤ room_1.cells := Nat.le_of_succ_le hc1
  have hc20 : slots ≤ room_1.slots := Nat.le_trans (Nat.le_add_right _ _) hc2
  have hw : ∀ (j : Nat), j ∉ ([19, 20, 21, 26, 34] : List Nat) → ws0[j]? = ws0[j]? := fun _ _ => rfl
  unfold f_LW_6 at hf
  refine lv_aload_n hx hb d_L_law_505 rfl (lv_at hl 1 rfl) ?_
  refine lv_aload_n hx hb d_L_law_506 rfl (lv_at hl 3 rfl) ?_
  obtain ⟨q1147, hc, hf⟩ := z_b hf
  have hFc := z_free hD hS hA
  refine va_calli (z_runSW (As := [.ref aO, .ref aOUT]) (rest := []) ⟨hx, hb, hml, hown, hts⟩ (c_L_pass l hfl dC dI cI cL _ hN_O hN_C hN_CA hN_I hN_IA hN_OUT q1147 hc) (cw_L_93 hts ⟨Nat.le_of_ble_eq_true rfl, Nat.le_of_ble_eq_true rfl⟩) ⟨zbT, zpT hP hK hZ hD hX (z_keep hA2 hS)⟩ rfl rfl hl.1 rfl (lv_room (Nat.le_of_ble_eq_true rfl)) d_L_law_507 ⟨hc1, hc2⟩) hS (fun q _ h => hFc q h) hFc (fun rv ws t H locs ht hvm hu hB hz1 hk1 hS => ?_)
  obtain ⟨hv, hN_I, hN_IA, hN_OUT, hfr⟩ := hu
  have hv := hv.symm
  subst hv
  obtain ⟨hP, -, hD1⟩ := hB
  rw [ht] at hP
  have hD := hD1.weaken (fun _ _ _ h => hFc _ h)
  have hN_I : zA ws 19 (aI, .inr (6, [.ref aIA, .int q1147.2.1, .int I_taken])) := hN_I
  have hN_IA : zA ws 20 (aIA, .inl (cI, IA_n, .inl q1147.2.2.1)) := hN_IA
  have hN_OUT : zA ws 34 (aOUT, .inl (cL, OUT_n, .inr (.inl q1147.2.2.2))) := hN_OUT
  have hN_O := (hfr _ (by decide)).trans hN_O
  have hN_C := (hfr _ (by decide)).trans hN_C
  have hN_CA := (hfr _ (by decide)).trans hN_CA
  have hN_X := (hfr _ (by decide)).trans hN_X
  have hN_Xencoded := (hfr _ (by decide)).trans hN_Xencoded
  have hN_Xfed := (hfr _ (by decide)).trans hN_Xfed
  have hw := z_frC (by decide) hw hfr
  refine lv_istore (lv' := [(5, .int q1147.1), (0, .ref b), (1, .ref aO), (2, .ref aX), (3, .ref aOUT), (4, .int v4)]) hx hb d_L_law_510 hl (by decide) rfl (fun ls hl => ?_)
  refine lv_aload_n hx hb d_L_law_512 rfl (lv_at hl 3 rfl) ?_
  obtain ⟨q1148, hc, hf⟩ := z_b hf
  have hFc := z_free hD hS hA
  refine va_calli (va_runV (As := []) (rest := []) ⟨hx, hb, hml, hown, hts⟩ (c_M_pass l dC dI cI cL _ hN_X hN_Xencoded hN_Xfed q1148 hc) (cw_L_96 hts ⟨Nat.le_of_ble_eq_true rfl, Nat.le_of_ble_eq_true rfl⟩) ⟨zbM, va_recv hK hP (ci := 7) rfl hN_X, (zpM hP hK hZ hD)⟩ rfl rfl hl.1 rfl (lv_room (Nat.le_of_ble_eq_true rfl)) d_L_law_513 ⟨hc1, hc2⟩) hS (fun q _ h => hFc q h) hFc (fun rv ws t H locs ht hvm hu hB hz1 hk1 hS => ?_)
  obtain ⟨hv, hN_X, hN_Xfed, hfr⟩ := hu
  subst hv
  obtain ⟨hP, -, hD1⟩ := hB
  rw [ht] at hP
  have hD := hD1.weaken (fun _ _ _ h => hFc _ h)
  have hN_X : zA ws 21 (aX, .inr (7, [.int q1148.2.1, .int X_side, .ref aXpicture, .ref aXhalf, .int X_many, .ref aXblocks, .int X_found, .int X_encodedBits, .ref aXencoded, .int q1148.2.2.1, .ref aXfed, .int X_readAt, .int X_why, .int X_tried, .int X_waiting, .ref aXpile, .int X_decoded, .ref aXnews, .ref aXolds, .ref aXhalves, .ref aXds, .ref aXrs, .ref aXbest, .long X_bestError])) := hN_X
  have hN_Xfed : zA ws 26 (aXfed, .inl (cI, Xfed_n, .inl q1148.2.2.2)) := hN_Xfed
  have hN_O := (hfr _ (by decide)).trans hN_O
  have hN_C := (hfr _ (by decide)).trans hN_C
  have hN_CA := (hfr _ (by decide)).trans hN_CA
  have hN_I := (hfr _ (by decide)).trans hN_I
  have hN_IA := (hfr _ (by decide)).trans hN_IA
  have hN_Xencoded := (hfr _ (by decide)).trans hN_Xencoded
  have hN_OUT := (hfr _ (by decide)).trans hN_OUT
  have hw := z_frC (by decide) hw hfr
  refine lv_istore (lv' := [(6, .int q1148.1), (5, .int q1147.1), (0, .ref b), (1, .ref aO), (2, .ref aX), (3, .ref aOUT), (4, .int v4)]) hx hb d_L_law_516 hl (by decide) rfl (fun ls hl => ?_)
  refine lv_aload_n hx hb d_L_law_518 rfl (lv_at hl 4 rfl) ?_
  obtain ⟨q1149, hc, hf⟩ := z_b hf
  refine vp_callSi (z_cr (va_runV (As := []) (rest := []) ⟨hx, hb, hml, hown, hts⟩ (c_M_thrown l dC dI cI cL hN_X q1149 hc) (cw_L_72 hts ⟨Nat.le_of_ble_eq_true rfl, Nat.le_of_ble_eq_true rfl⟩) ⟨zbR, va_recv hK hP (ci := 7) rfl hN_X, (zpR hP hK hZ)⟩ rfl rfl hl.1 rfl (lv_room (Nat.le_of_ble_eq_true rfl)) d_L_law_519 ⟨hc1, hc2⟩)) (fun r1150 hv => ?_)
  have hv := hv.symm
  subst hv
  refine lv_iload hx hb d_L_law_522 (lv_at hl 1 rfl) ?_
  refine lv_icmp_eq (tgt := 529) hx hb d_L_law_524 (by decide) (fun hc => ?_) (fun hc => ?_)
  · have hf := z_t hc hf
    refine lv_iload hx hb d_L_law_529 (lv_at hl 1 rfl) ?_
    refine lv_if_ne (tgt := 546) hx hb d_L_law_531 (by decide) (fun hc => ?_) (fun hc => ?_)
    · have hf := z_f hc hf
      refine lv_goto (tgt := 974) hx hb d_L_law_546 (by decide) ?_
      obtain rfl := Option.some.inj hf
      exact kt _ _ _ ls _ _ (Nat.le_refl _) (Nat.le_refl _) (lv_sub hl [2, 3, 4, 5, 6] rfl) hP hD hS hN_I hN_IA hN_X hN_Xfed hN_OUT hw
    · have hf := z_t hc hf
      refine lv_aload_n hx hb d_L_law_534 rfl (lv_at hl 5 rfl) ?_
      refine lv_iconst (v := 0) hx hb d_L_law_535 (by decide) ?_
      obtain ⟨hin, hf⟩ := z_no hf
      refine va_lald hx hb hK hP _ 1 hN_OUT rfl hin d_L_law_536 ?_
      refine lv_iload hx hb d_L_law_537 (lv_at hl 0 rfl) ?_
      refine lv_i2l hx hb d_L_law_539 rfl ?_
      refine W.lcmp hx hb d_L_law_540 ?_
      refine lv_if_eq (tgt := 546) hx hb d_L_law_541 (by decide) (fun hc => ?_) (fun hc => ?_)
      · have hf := z_t hc hf
        refine lv_goto (tgt := 974) hx hb d_L_law_546 (by decide) ?_
        obtain rfl := Option.some.inj hf
        exact kt _ _ _ ls _ _ (Nat.le_refl _) (Nat.le_refl _) (lv_sub hl [2, 3, 4, 5, 6] rfl) hP hD hS hN_I hN_IA hN_X hN_Xfed hN_OUT hw
      · have hf := z_f hc hf
        refine lv_iconst (v := 0) hx hb d_L_law_544 (by decide) ?_
        cases hf
  · have hf := z_f hc hf
    refine lv_iconst (v := 0) hx hb d_L_law_527 (by decide) ?_
    cases hf
def f_LW_7 (O_side : Int32) (K_count : Int32) (KA_n : Nat) (KA_f : Nat → Int32) (T_domain : Int32) (T_turn : Int32) (T_contrast : Int32) (T_offset : Int32) (T_error : Int32) (I_filled : Int32) (I_taken : Int32) (IA_n : Nat) (IA_f : Nat → Int32) (X_code : Int32) (X_side : Int32) (X_many : Int32) (X_found : Int32) (X_fedMany : Int32) (X_readAt : Int32) (X_why : Int32) (X_waiting : Int32) (Xblocks_n : Nat) (Xblocks_f : Nat → Int32) (Xfed_n : Nat) (Xfed_f : Nat → Int32) (Xpile_n : Nat) (Xpile_f : Nat → Int32) (Xbest_n : Nat) (Xbest_f : Nat → Int32) : Option (Int32 × (Nat → Int32) × Int32 × Int32 × Int32 × Int32 × Int32 × Int32 × Int32 × Int32 × Int32 × Int32 × Int32 × Int32 × Int32 × Int32 × (Nat → Int32) × (Nat → Int32) × (Nat → Int32)) := (f_F_read O_side K_count KA_n KA_f T_domain T_turn T_contrast T_offset T_error I_filled I_taken IA_n IA_f).bind (fun q1151 => (f_M_read X_side X_many X_found X_fedMany X_readAt X_why X_waiting Xblocks_n Xblocks_f Xfed_n Xfed_f Xpile_n Xpile_f Xbest_n Xbest_f).bind (fun q1152 => if q1151.1 = q1152.1 then (some (q1151.2.1, q1151.2.2.1, q1151.2.2.2.1, q1151.2.2.2.2.1, q1151.2.2.2.2.2.1, q1151.2.2.2.2.2.2.1, q1151.2.2.2.2.2.2.2.1, q1151.2.2.2.2.2.2.2.2.1, q1151.2.2.2.2.2.2.2.2.2, q1152.2.1, q1152.2.2.1, q1152.2.2.2.1, q1152.2.2.2.2.1, q1152.2.2.2.2.2.1, q1152.2.2.2.2.2.2.1, q1152.2.2.2.2.2.2.2.1, q1152.2.2.2.2.2.2.2.2.1, q1152.2.2.2.2.2.2.2.2.2.1, q1152.2.2.2.2.2.2.2.2.2.2)) else (none)))
set_option maxHeartbeats 4000000 in
set_option maxRecDepth 100000 in
theorem lc_7 {p : Program} {l : Launch} {e : Env} {s : State} {m : MethodId} {below : List Frame} {meth : Method} {c : Code} {b L : Nat} {xs : Nat → Int32} {dC : Nat → ClassId} {dI : Nat → Nat → Nat} {cI cL : ClassId} {A : Nat → Prop} {Q : State → Prop} {ws0 : va_W} {H : Heap} {locs : List Loc} {cells slots : Nat} {ls : Array Slot} {v4 : Int32} {aO aP aN aH aV aS aK aT aC aI aKA aIA aX aXpicture aXhalf aXblocks aXencoded aXfed aXpile aXnews aXolds aXhalves aXds aXrs aXbest aOUT : Nat} {O_side : Int32} {K_count : Int32} {KA_n : Nat} {KA_f : Nat → Int32} {T_domain : Int32} {T_turn : Int32} {T_contrast : Int32} {T_offset : Int32} {T_error : Int32} {I_filled : Int32} {I_taken : Int32} {IA_n : Nat} {IA_f : Nat → Int32} {X_code : Int32} {X_side : Int32} {X_many : Int32} {X_found : Int32} {X_encodedBits : Int32} {X_fedMany : Int32} {X_readAt : Int32} {X_why : Int32} {X_tried : Int32} {X_waiting : Int32} {X_decoded : Int32} {X_bestError : Int64} {Xblocks_n : Nat} {Xblocks_f : Nat → Int32} {Xfed_n : Nat} {Xfed_f : Nat → Int32} {Xpile_n : Nat} {Xpile_f : Nat → Int32} {Xbest_n : Nat} {Xbest_f : Nat → Int32} (fx : lwFix p l s m c b L xs dC dI cI cL A) (hc1 : cells + 1 ≤ room_1.cells) (hc2 : slots + 6 ≤ room_1.slots) (hl : lv_has ls 8 [(0, .ref b), (1, .ref aO), (2, .ref aX), (3, .ref aOUT), (4, .int v4)]) (hP : va_P (dC, dI) classes ws0 H) (hD : va_D A ws0) (hS : va_S A s.heap H locs) (hN_O : zA ws0 0 (aO, .inr (0, [.int O_side, .ref aP, .ref aN, .ref aH, .ref aV, .ref aS, .ref aK, .ref aT, .ref aC, .ref aI]))) (hN_K : zA ws0 14 (aK, .inr (5, [.ref aKA, .int K_count]))) (hN_KA : zA ws0 15 (aKA, .inl (cI, KA_n, .inl KA_f))) (hN_T : zA ws0 16 (aT, .inr (4, [.int T_domain, .int T_turn, .int T_contrast, .int T_offset, .int T_error]))) (hN_I : zA ws0 19 (aI, .inr (6, [.ref aIA, .int I_filled, .int I_taken]))) (hN_IA : zA ws0 20 (aIA, .inl (cI, IA_n, .inl IA_f))) (hN_X : zA ws0 21 (aX, .inr (7, [.int X_code, .int X_side, .ref aXpicture, .ref aXhalf, .int X_many, .ref aXblocks, .int X_found, .int X_encodedBits, .ref aXencoded, .int X_fedMany, .ref aXfed, .int X_readAt, .int X_why, .int X_tried, .int X_waiting, .ref aXpile, .int X_decoded, .ref aXnews, .ref aXolds, .ref aXhalves, .ref aXds, .ref aXrs, .ref aXbest, .long X_bestError]))) (hN_Xblocks : zA ws0 24 (aXblocks, .inl (cI, Xblocks_n, .inl Xblocks_f))) (hN_Xfed : zA ws0 26 (aXfed, .inl (cI, Xfed_n, .inl Xfed_f))) (hN_Xpile : zA ws0 27 (aXpile, .inl (cI, Xpile_n, .inl Xpile_f))) (hN_Xbest : zA ws0 33 (aXbest, .inl (cI, Xbest_n, .inl Xbest_f))) (r : Int32 × (Nat → Int32) × Int32 × Int32 × Int32 × Int32 × Int32 × Int32 × Int32 × Int32 × Int32 × Int32 × Int32 × Int32 × Int32 × Int32 × (Nat → Int32) × (Nat → Int32) × (Nat → Int32)) (hf : f_LW_7 O_side K_count KA_n KA_f T_domain T_turn T_contrast T_offset T_error I_filled I_taken IA_n IA_f X_code X_side X_many X_found X_fedMany X_readAt X_why X_waiting Xblocks_n Xblocks_f Xfed_n Xfed_f Xpile_n Xpile_f Xbest_n Xbest_f = some r) (kt : ∀ (ws : va_W) (H : Heap) (locs : List Loc) (ls : Array Slot) (ce sl : Nat), ce ≤ cells + 1 → sl ≤ slots + 6 → lv_has ls 8 [(0, .ref b), (1, .ref aO), (2, .ref aX), (3, .ref aOUT), (4, .int v4)] → va_P (dC, dI) classes ws H → va_D A ws → va_S A s.heap H locs → zA ws 14 (aK, .inr (5, [.ref aKA, .int r.1])) → zA ws 15 (aKA, .inl (cI, KA_n, .inl r.2.1)) → zA ws 16 (aT, .inr (4, [.int r.2.2.1, .int r.2.2.2.1, .int r.2.2.2.2.1, .int r.2.2.2.2.2.1, .int r.2.2.2.2.2.2.1])) → zA ws 19 (aI, .inr (6, [.ref aIA, .int r.2.2.2.2.2.2.2.1, .int r.2.2.2.2.2.2.2.2.1])) → zA ws 21 (aX, .inr (7, [.int r.2.2.2.2.2.2.2.2.2.1, .int X_side, .ref aXpicture, .ref aXhalf, .int r.2.2.2.2.2.2.2.2.2.2.1, .ref aXblocks, .int r.2.2.2.2.2.2.2.2.2.2.2.1, .int X_encodedBits, .ref aXencoded, .int r.2.2.2.2.2.2.2.2.2.2.2.2.1, .ref aXfed, .int r.2.2.2.2.2.2.2.2.2.2.2.2.2.1, .int r.2.2.2.2.2.2.2.2.2.2.2.2.2.2.1, .int X_tried, .int r.2.2.2.2.2.2.2.2.2.2.2.2.2.2.2.1, .ref aXpile, .int X_decoded, .ref aXnews, .ref aXolds, .ref aXhalves, .ref aXds, .ref aXrs, .ref aXbest, .long X_bestError])) → zA ws 24 (aXblocks, .inl (cI, Xblocks_n, .inl r.2.2.2.2.2.2.2.2.2.2.2.2.2.2.2.2.1)) → zA ws 27 (aXpile, .inl (cI, Xpile_n, .inl r.2.2.2.2.2.2.2.2.2.2.2.2.2.2.2.2.2.1)) → zA ws 33 (aXbest, .inl (cI, Xbest_n, .inl r.2.2.2.2.2.2.2.2.2.2.2.2.2.2.2.2.2.2)) → (∀ (j : Nat), j ∉ ([14, 15, 16, 19, 21, 24, 27, 33] : List Nat) → ws[j]? = ws0[j]?) → W p l e room_1 s m #[Value.ref b] below meth c H locs ce sl Q (F0 m 974 ls [])) : W p l e room_1 s m #[Value.ref b] below meth c H locs cells slots Q (F0 m 549 ls []) := by
  obtain ⟨hfl, hx, hb, hml, hown, hts, hK, hZ, hX, hXs, hbl, hbA, hA, hA2⟩ := fx
  have hc10 : cells ≤ room_1.cells := Nat.le_of_succ_le hc1
  have hc20 : slots ≤ room_1.slots := Nat.le_trans (Nat.le_add_right _ _) hc2
  have hw : ∀ (j : Nat), j ∉ ([14, 15, 16, 19, 21, 24, 27, 33] : List Nat) → ws0[j]? = ws0[j]? := fun _ _ => rfl
  unfold f_LW_7 at hf
  refine lv_aload_n hx hb d_L_law_549 rfl (lv_at hl 1 rfl) ?_
  obtain ⟨q1151, hc, hf⟩ := z_b hf
  have hFc := z_free hD hS hA
  refine va_calli (va_runV (As := []) (rest := []) ⟨hx, hb, hml, hown, hts⟩ (c_F_read l dC dI cI cL _ hN_O hN_K hN_KA hN_T hN_I hN_IA q1151 hc) (cw_L_97 hts ⟨Nat.le_of_ble_eq_true rfl, Nat.le_of_ble_eq_true rfl⟩) ⟨zbM, va_recv hK hP (ci := 0) rfl hN_O, (zpM hP hK hZ hD)⟩ rfl rfl hl.1 rfl (lv_room (Nat.le_of_ble_eq_true rfl)) d_L_law_550 ⟨hc10, hc20⟩) hS (fun q _ h => hFc q h) hFc (fun rv ws t H locs ht hvm hu hB hz1 hk1 hS => ?_)
  obtain ⟨hv, hN_K, hN_KA, hN_T, hN_I, hfr⟩ := hu
  subst hv
  obtain ⟨hP, -, hD1⟩ := hB
  rw [ht] at hP
  have hD := hD1.weaken (fun _ _ _ h => hFc _ h)
  have hN_K : zA ws 14 (aK, .inr (5, [.ref aKA, .int q1151.2.1])) := hN_K
  have hN_KA : zA ws 15 (aKA, .inl (cI, KA_n, .inl q1151.2.2.1)) := hN_KA
  have hN_T : zA ws 16 (aT, .inr (4, [.int q1151.2.2.2.1, .int q1151.2.2.2.2.1, .int q1151.2.2.2.2.2.1, .int q1151.2.2.2.2.2.2.1, .int q1151.2.2.2.2.2.2.2.1])) := hN_T
  have hN_I : zA ws 19 (aI, .inr (6, [.ref aIA, .int q1151.2.2.2.2.2.2.2.2.1, .int q1151.2.2.2.2.2.2.2.2.2])) := hN_I
  have hN_O := (hfr _ (by decide)).trans hN_O
  have hN_IA := (hfr _ (by decide)).trans hN_IA
  have hN_X := (hfr _ (by decide)).trans hN_X
  have hN_Xblocks := (hfr _ (by decide)).trans hN_Xblocks
  have hN_Xfed := (hfr _ (by decide)).trans hN_Xfed
  have hN_Xpile := (hfr _ (by decide)).trans hN_Xpile
  have hN_Xbest := (hfr _ (by decide)).trans hN_Xbest
  have hw := z_frC (by decide) hw hfr
  refine lv_aload_n hx hb d_L_law_553 rfl (lv_at hl 2 rfl) ?_
  obtain ⟨q1152, hc, hf⟩ := z_b hf
  have hFc := z_free hD hS hA
  refine va_calli (va_runV (As := []) (rest := [.int q1151.1]) ⟨hx, hb, hml, hown, hts⟩ (c_M_read l dC dI cI cL _ hN_X hN_Xblocks hN_Xfed hN_Xpile hN_Xbest q1152 hc) (cw_L_100 hts ⟨Nat.le_of_ble_eq_true rfl, Nat.le_of_ble_eq_true rfl⟩) ⟨zbM, va_recv hK hP (ci := 7) rfl hN_X, (zpM hP hK hZ hD)⟩ rfl rfl hl.1 rfl (lv_room (Nat.le_of_ble_eq_true rfl)) d_L_law_554 ⟨hc10, hc20⟩) hS (fun q _ h => hFc q h) hFc (fun rv ws t H locs ht hvm hu hB hz1 hk1 hS => ?_)
  obtain ⟨hv, hN_X, hN_Xblocks, hN_Xpile, hN_Xbest, hfr⟩ := hu
  subst hv
  obtain ⟨hP, -, hD1⟩ := hB
  rw [ht] at hP
  have hD := hD1.weaken (fun _ _ _ h => hFc _ h)
  have hN_X : zA ws 21 (aX, .inr (7, [.int q1152.2.1, .int X_side, .ref aXpicture, .ref aXhalf, .int q1152.2.2.1, .ref aXblocks, .int q1152.2.2.2.1, .int X_encodedBits, .ref aXencoded, .int q1152.2.2.2.2.1, .ref aXfed, .int q1152.2.2.2.2.2.1, .int q1152.2.2.2.2.2.2.1, .int X_tried, .int q1152.2.2.2.2.2.2.2.1, .ref aXpile, .int X_decoded, .ref aXnews, .ref aXolds, .ref aXhalves, .ref aXds, .ref aXrs, .ref aXbest, .long X_bestError])) := hN_X
  have hN_Xblocks : zA ws 24 (aXblocks, .inl (cI, Xblocks_n, .inl q1152.2.2.2.2.2.2.2.2.1)) := hN_Xblocks
  have hN_Xpile : zA ws 27 (aXpile, .inl (cI, Xpile_n, .inl q1152.2.2.2.2.2.2.2.2.2.1)) := hN_Xpile
  have hN_Xbest : zA ws 33 (aXbest, .inl (cI, Xbest_n, .inl q1152.2.2.2.2.2.2.2.2.2.2)) := hN_Xbest
  have hN_O := (hfr _ (by decide)).trans hN_O
  have hN_K := (hfr _ (by decide)).trans hN_K
  have hN_KA := (hfr _ (by decide)).trans hN_KA
  have hN_T := (hfr _ (by decide)).trans hN_T
  have hN_I := (hfr _ (by decide)).trans hN_I
  have hN_IA := (hfr _ (by decide)).trans hN_IA
  have hN_Xfed := (hfr _ (by decide)).trans hN_Xfed
  have hw := z_frC (by decide) hw hfr
  refine lv_icmp_eq (tgt := 974) hx hb d_L_law_557 (by decide) (fun hc => ?_) (fun hc => ?_)
  · have hf := z_t hc hf
    obtain rfl := Option.some.inj hf
    exact kt _ _ _ ls _ _ (Nat.le_succ _) (Nat.le_add_right _ _) (lv_sub hl [0, 1, 2, 3, 4] rfl) hP hD hS hN_K hN_KA hN_T hN_I hN_X hN_Xblocks hN_Xpile hN_Xbest hw
  · have hf := z_f hc hf
    refine lv_iconst (v := 0) hx hb d_L_law_560 (by decide) ?_
    cases hf
def f_LW_8 (a1 : Int32) (a2 : Int32) (O_side : Int32) (N_mostSide : Int32) (N_side : Int32) (NA_n : Nat) (NA_f : Nat → Int32) (H_mostSide : Int32) (H_side : Int32) (HA_n : Nat) (HA_f : Nat → Int32) (V_left : Int32) (V_top : Int32) (V_start : Int32) (V_stepAcross : Int32) (V_stepDown : Int32) (K_count : Int32) (KA_n : Nat) (KA_f : Nat → Int32) (X_code : Int32) (X_side : Int32) (X_many : Int32) (X_decoded : Int32) (Xblocks_n : Nat) (Xblocks_f : Nat → Int32) (Xnews_n : Nat) (Xnews_f : Nat → Int32) (Xolds_n : Nat) (Xolds_f : Nat → Int32) (Xhalves_n : Nat) (Xhalves_f : Nat → Int32) (OUT_n : Nat) (OUT_f : Nat → Int64) : Option (Int32 × (Nat → Int32) × Int32 × (Nat → Int32) × Int32 × Int32 × Int32 × Int32 × Int32 × Int32 × Int32 × (Nat → Int32) × (Nat → Int32) × (Nat → Int32) × (Nat → Int64)) := (f_L_decode a1 a2 O_side N_mostSide N_side NA_n NA_f H_mostSide H_side HA_n HA_f V_left V_top V_start V_stepAcross V_stepDown K_count KA_n KA_f OUT_n OUT_f).bind (fun q1153 => (f_M_decode a1 a2 X_code X_side X_many X_decoded Xblocks_n Xblocks_f Xnews_n Xnews_f Xolds_n Xolds_f Xhalves_n Xhalves_f).bind (fun q1154 => (f_M_thrown q1154.2.1).bind (fun q1155 => if q1155 = q1153.1 then (if q1153.1 = 0 then (if (0 : Int32) < 0 ∨ OUT_n ≤ (0 : Int32).toNatClampNeg then none else (if (lg_cmp (q1153.2.2.2.2.2.2.2.2.2.2 (0 : Int32).toNatClampNeg) q1154.1.toInt64) = 0 then (some (q1153.2.1, q1153.2.2.1, q1153.2.2.2.1, q1153.2.2.2.2.1, q1153.2.2.2.2.2.1, q1153.2.2.2.2.2.2.1, q1153.2.2.2.2.2.2.2.1, q1153.2.2.2.2.2.2.2.2.1, q1153.2.2.2.2.2.2.2.2.2.1, q1154.2.1, q1154.2.2.1, q1154.2.2.2.1, q1154.2.2.2.2.1, q1154.2.2.2.2.2, q1153.2.2.2.2.2.2.2.2.2.2)) else (none))) else (some (q1153.2.1, q1153.2.2.1, q1153.2.2.2.1, q1153.2.2.2.2.1, q1153.2.2.2.2.2.1, q1153.2.2.2.2.2.2.1, q1153.2.2.2.2.2.2.2.1, q1153.2.2.2.2.2.2.2.2.1, q1153.2.2.2.2.2.2.2.2.2.1, q1154.2.1, q1154.2.2.1, q1154.2.2.2.1, q1154.2.2.2.2.1, q1154.2.2.2.2.2, q1153.2.2.2.2.2.2.2.2.2.2))) else (none))))
set_option maxHeartbeats 4000000 in
set_option maxRecDepth 100000 in
theorem lc_8 {p : Program} {l : Launch} {e : Env} {s : State} {m : MethodId} {below : List Frame} {meth : Method} {c : Code} {b L : Nat} {xs : Nat → Int32} {dC : Nat → ClassId} {dI : Nat → Nat → Nat} {cI cL : ClassId} {A : Nat → Prop} {Q : State → Prop} {ws0 : va_W} {H : Heap} {locs : List Loc} {cells slots : Nat} {ls : Array Slot} {v4 : Int32} {aO aP aN aH aV aS aK aT aC aI aNA aHA aKA aX aXpicture aXhalf aXblocks aXencoded aXfed aXpile aXnews aXolds aXhalves aXds aXrs aXbest aOUT : Nat} {O_side : Int32} {N_mostSide : Int32} {N_side : Int32} {NA_n : Nat} {NA_f : Nat → Int32} {H_mostSide : Int32} {H_side : Int32} {HA_n : Nat} {HA_f : Nat → Int32} {V_left : Int32} {V_top : Int32} {V_start : Int32} {V_stepAcross : Int32} {V_stepDown : Int32} {K_count : Int32} {KA_n : Nat} {KA_f : Nat → Int32} {X_code : Int32} {X_side : Int32} {X_many : Int32} {X_found : Int32} {X_encodedBits : Int32} {X_fedMany : Int32} {X_readAt : Int32} {X_why : Int32} {X_tried : Int32} {X_waiting : Int32} {X_decoded : Int32} {X_bestError : Int64} {Xblocks_n : Nat} {Xblocks_f : Nat → Int32} {Xnews_n : Nat} {Xnews_f : Nat → Int32} {Xolds_n : Nat} {Xolds_f : Nat → Int32} {Xhalves_n : Nat} {Xhalves_f : Nat → Int32} {OUT_n : Nat} {OUT_f : Nat → Int64} (fx : lwFix p l s m c b L xs dC dI cI cL A) (hc1 : cells + 1 ≤ room_1.cells) (hc2 : slots + 6 ≤ room_1.slots) (hl : lv_has ls 8 [(0, .ref b), (1, .ref aO), (2, .ref aX), (3, .ref aOUT), (4, .int v4)]) (hP : va_P (dC, dI) classes ws0 H) (hD : va_D A ws0) (hS : va_S A s.heap H locs) (hN_O : zA ws0 0 (aO, .inr (0, [.int O_side, .ref aP, .ref aN, .ref aH, .ref aV, .ref aS, .ref aK, .ref aT, .ref aC, .ref aI]))) (hN_N : zA ws0 3 (aN, .inr (1, [.int N_mostSide, .ref aNA, .int N_side]))) (hN_NA : zA ws0 4 (aNA, .inl (cI, NA_n, .inl NA_f))) (hN_H : zA ws0 5 (aH, .inr (1, [.int H_mostSide, .ref aHA, .int H_side]))) (hN_HA : zA ws0 6 (aHA, .inl (cI, HA_n, .inl HA_f))) (hN_V : zA ws0 7 (aV, .inr (2, [.ref aH, .int V_left, .int V_top, .int V_start, .int V_stepAcross, .int V_stepDown]))) (hN_K : zA ws0 14 (aK, .inr (5, [.ref aKA, .int K_count]))) (hN_KA : zA ws0 15 (aKA, .inl (cI, KA_n, .inl KA_f))) (hN_X : zA ws0 21 (aX, .inr (7, [.int X_code, .int X_side, .ref aXpicture, .ref aXhalf, .int X_many, .ref aXblocks, .int X_found, .int X_encodedBits, .ref aXencoded, .int X_fedMany, .ref aXfed, .int X_readAt, .int X_why, .int X_tried, .int X_waiting, .ref aXpile, .int X_decoded, .ref aXnews, .ref aXolds, .ref aXhalves, .ref aXds, .ref aXrs, .ref aXbest, .long X_bestError]))) (hN_Xblocks : zA ws0 24 (aXblocks, .inl (cI, Xblocks_n, .inl Xblocks_f))) (hN_Xnews : zA ws0 28 (aXnews, .inl (cI, Xnews_n, .inl Xnews_f))) (hN_Xolds : zA ws0 29 (aXolds, .inl (cI, Xolds_n, .inl Xolds_f))) (hN_Xhalves : zA ws0 30 (aXhalves, .inl (cI, Xhalves_n, .inl Xhalves_f))) (hN_OUT : zA ws0 34 (aOUT, .inl (cL, OUT_n, .inr (.inl OUT_f)))) (hin1 : vp_in (v4 + (1 : Int32)) L) (hin2 : vp_in (v4 + (2 : Int32)) L) (r : Int32 × (Nat → Int32) × Int32 × (Nat → Int32) × Int32 × Int32 × Int32 × Int32 × Int32 × Int32 × Int32 × (Nat → Int32) × (Nat → Int32) × (Nat → Int32) × (Nat → Int64)) (hf : f_LW_8 (xs (v4 + (1 : Int32)).toNatClampNeg) (xs (v4 + (2 : Int32)).toNatClampNeg) O_side N_mostSide N_side NA_n NA_f H_mostSide H_side HA_n HA_f V_left V_top V_start V_stepAcross V_stepDown K_count KA_n KA_f X_code X_side X_many X_decoded Xblocks_n Xblocks_f Xnews_n Xnews_f Xolds_n Xolds_f Xhalves_n Xhalves_f OUT_n OUT_f = some r) (kt : ∀ (ws : va_W) (H : Heap) (locs : List Loc) (ls : Array Slot) (ce sl : Nat), ce ≤ cells + 1 → sl ≤ slots + 6 → lv_has ls 8 [(0, .ref b), (1, .ref aO), (2, .ref aX), (3, .ref aOUT), (4, .int v4)] → va_P (dC, dI) classes ws H → va_D A ws → va_S A s.heap H locs → zA ws 3 (aN, .inr (1, [.int N_mostSide, .ref aNA, .int r.1])) → zA ws 4 (aNA, .inl (cI, NA_n, .inl r.2.1)) → zA ws 5 (aH, .inr (1, [.int H_mostSide, .ref aHA, .int r.2.2.1])) → zA ws 6 (aHA, .inl (cI, HA_n, .inl r.2.2.2.1)) → zA ws 7 (aV, .inr (2, [.ref aH, .int r.2.2.2.2.1, .int r.2.2.2.2.2.1, .int r.2.2.2.2.2.2.1, .int r.2.2.2.2.2.2.2.1, .int r.2.2.2.2.2.2.2.2.1])) → zA ws 21 (aX, .inr (7, [.int r.2.2.2.2.2.2.2.2.2.1, .int X_side, .ref aXpicture, .ref aXhalf, .int X_many, .ref aXblocks, .int X_found, .int X_encodedBits, .ref aXencoded, .int X_fedMany, .ref aXfed, .int X_readAt, .int X_why, .int X_tried, .int X_waiting, .ref aXpile, .int r.2.2.2.2.2.2.2.2.2.2.1, .ref aXnews, .ref aXolds, .ref aXhalves, .ref aXds, .ref aXrs, .ref aXbest, .long X_bestError])) → zA ws 28 (aXnews, .inl (cI, Xnews_n, .inl r.2.2.2.2.2.2.2.2.2.2.2.1)) → zA ws 29 (aXolds, .inl (cI, Xolds_n, .inl r.2.2.2.2.2.2.2.2.2.2.2.2.1)) → zA ws 30 (aXhalves, .inl (cI, Xhalves_n, .inl r.2.2.2.2.2.2.2.2.2.2.2.2.2.1)) → zA ws 34 (aOUT, .inl (cL, OUT_n, .inr (.inl r.2.2.2.2.2.2.2.2.2.2.2.2.2.2))) → (∀ (j : Nat), j ∉ ([3, 4, 5, 6, 7, 21, 28, 29, 30, 34] : List Nat) → ws[j]? = ws0[j]?) → W p l e room_1 s m #[Value.ref b] below meth c H locs ce sl Q (F0 m 974 ls [])) : W p l e room_1 s m #[Value.ref b] below meth c H locs cells slots Q (F0 m 562 ls []) := by
  obtain ⟨hfl, hx, hb, hml, hown, hts, hK, hZ, hX, hXs, hbl, hbA, hA, hA2⟩ := fx
  have hc10 : cells ≤ room_1.cells := Nat.le_of_succ_le hc1
  have hc20 : slots ≤ room_1.slots := Nat.le_trans (Nat.le_add_right _ _) hc2
  have hw : ∀ (j : Nat), j ∉ ([3, 4, 5, 6, 7, 21, 28, 29, 30, 34] : List Nat) → ws0[j]? = ws0[j]? := fun _ _ => rfl
  unfold f_LW_8 at hf
  refine lv_aload_n hx hb d_L_law_562 rfl (lv_at hl 1 rfl) ?_
  refine lv_aload_n hx hb d_L_law_563 rfl (lv_at hl 0 rfl) ?_
  refine lv_iload hx hb d_L_law_564 (lv_at hl 4 rfl) ?_
  refine lv_iconst (v := 1) hx hb d_L_law_566 (by decide) ?_
  refine lv_iadd hx hb d_L_law_567 ?_
  refine va_sld hx hb hXs hbl hbA hS hin1 d_L_law_568 ?_
  refine lv_aload_n hx hb d_L_law_569 rfl (lv_at hl 0 rfl) ?_
  refine lv_iload hx hb d_L_law_570 (lv_at hl 4 rfl) ?_
  refine lv_iconst (v := 2) hx hb d_L_law_572 (by decide) ?_
  refine lv_iadd hx hb d_L_law_573 ?_
  refine va_sld hx hb hXs hbl hbA hS hin2 d_L_law_574 ?_
  refine lv_aload_n hx hb d_L_law_575 rfl (lv_at hl 3 rfl) ?_
  obtain ⟨q1153, hc, hf⟩ := z_b hf
  have hFc := z_free hD hS hA
  refine va_calli (z_runSW (As := [.ref aO, .int (xs (v4 + (1 : Int32)).toNatClampNeg), .int (xs (v4 + (2 : Int32)).toNatClampNeg), .ref aOUT]) (rest := []) ⟨hx, hb, hml, hown, hts⟩ (c_L_decode l hfl dC dI cI cL _ (xs (v4 + (1 : Int32)).toNatClampNeg) (xs (v4 + (2 : Int32)).toNatClampNeg) hN_O hN_N hN_NA hN_H hN_HA hN_V hN_K hN_KA hN_OUT q1153 hc) (cw_L_101 hts ⟨Nat.le_of_ble_eq_true rfl, Nat.le_of_ble_eq_true rfl⟩) ⟨zbT, zpT hP hK hZ hD hX (z_keep hA2 hS)⟩ rfl rfl hl.1 rfl (lv_room (Nat.le_of_ble_eq_true rfl)) d_L_law_576 ⟨hc1, hc2⟩) hS (fun q _ h => hFc q h) hFc (fun rv ws t H locs ht hvm hu hB hz1 hk1 hS => ?_)
  obtain ⟨hv, hN_N, hN_NA, hN_H, hN_HA, hN_V, hN_OUT, hfr⟩ := hu
  have hv := hv.symm
  subst hv
  obtain ⟨hP, -, hD1⟩ := hB
  rw [ht] at hP
  have hD := hD1.weaken (fun _ _ _ h => hFc _ h)
  have hN_N : zA ws 3 (aN, .inr (1, [.int N_mostSide, .ref aNA, .int q1153.2.1])) := hN_N
  have hN_NA : zA ws 4 (aNA, .inl (cI, NA_n, .inl q1153.2.2.1)) := hN_NA
  have hN_H : zA ws 5 (aH, .inr (1, [.int H_mostSide, .ref aHA, .int q1153.2.2.2.1])) := hN_H
  have hN_HA : zA ws 6 (aHA, .inl (cI, HA_n, .inl q1153.2.2.2.2.1)) := hN_HA
  have hN_V : zA ws 7 (aV, .inr (2, [.ref aH, .int q1153.2.2.2.2.2.1, .int q1153.2.2.2.2.2.2.1, .int q1153.2.2.2.2.2.2.2.1, .int q1153.2.2.2.2.2.2.2.2.1, .int q1153.2.2.2.2.2.2.2.2.2.1])) := hN_V
  have hN_OUT : zA ws 34 (aOUT, .inl (cL, OUT_n, .inr (.inl q1153.2.2.2.2.2.2.2.2.2.2))) := hN_OUT
  have hN_O := (hfr _ (by decide)).trans hN_O
  have hN_K := (hfr _ (by decide)).trans hN_K
  have hN_KA := (hfr _ (by decide)).trans hN_KA
  have hN_X := (hfr _ (by decide)).trans hN_X
  have hN_Xblocks := (hfr _ (by decide)).trans hN_Xblocks
  have hN_Xnews := (hfr _ (by decide)).trans hN_Xnews
  have hN_Xolds := (hfr _ (by decide)).trans hN_Xolds
  have hN_Xhalves := (hfr _ (by decide)).trans hN_Xhalves
  have hw := z_frC (by decide) hw hfr
  refine lv_istore (lv' := [(5, .int q1153.1), (0, .ref b), (1, .ref aO), (2, .ref aX), (3, .ref aOUT), (4, .int v4)]) hx hb d_L_law_579 hl (by decide) rfl (fun ls hl => ?_)
  refine lv_aload_n hx hb d_L_law_581 rfl (lv_at hl 3 rfl) ?_
  refine lv_aload_n hx hb d_L_law_582 rfl (lv_at hl 1 rfl) ?_
  refine lv_iload hx hb d_L_law_583 (lv_at hl 5 rfl) ?_
  refine lv_iconst (v := 1) hx hb d_L_law_585 (by decide) ?_
  refine lv_iadd hx hb d_L_law_586 ?_
  refine va_sld hx hb hXs hbl hbA hS hin1 d_L_law_587 ?_
  refine lv_aload_n hx hb d_L_law_588 rfl (lv_at hl 1 rfl) ?_
  refine lv_iload hx hb d_L_law_589 (lv_at hl 5 rfl) ?_
  refine lv_iconst (v := 2) hx hb d_L_law_591 (by decide) ?_
  refine lv_iadd hx hb d_L_law_592 ?_
  refine va_sld hx hb hXs hbl hbA hS hin2 d_L_law_593 ?_
  obtain ⟨q1154, hc, hf⟩ := z_b hf
  have hFc := z_free hD hS hA
  refine va_calli (va_runV (As := [.int (xs (v4 + (1 : Int32)).toNatClampNeg), .int (xs (v4 + (2 : Int32)).toNatClampNeg)]) (rest := []) ⟨hx, hb, hml, hown, hts⟩ (c_M_decode l dC dI cI cL _ (xs (v4 + (1 : Int32)).toNatClampNeg) (xs (v4 + (2 : Int32)).toNatClampNeg) hN_X hN_Xblocks hN_Xnews hN_Xolds hN_Xhalves q1154 hc) (cw_L_103 hts ⟨Nat.le_of_ble_eq_true rfl, Nat.le_of_ble_eq_true rfl⟩) ⟨zbM, va_recv hK hP (ci := 7) rfl hN_X, (zpM hP hK hZ hD)⟩ rfl rfl hl.1 rfl (lv_room (Nat.le_of_ble_eq_true rfl)) d_L_law_594 ⟨hc1, hc2⟩) hS (fun q _ h => hFc q h) hFc (fun rv ws t H locs ht hvm hu hB hz1 hk1 hS => ?_)
  obtain ⟨hv, hN_X, hN_Xnews, hN_Xolds, hN_Xhalves, hfr⟩ := hu
  subst hv
  obtain ⟨hP, -, hD1⟩ := hB
  rw [ht] at hP
  have hD := hD1.weaken (fun _ _ _ h => hFc _ h)
  have hN_X : zA ws 21 (aX, .inr (7, [.int q1154.2.1, .int X_side, .ref aXpicture, .ref aXhalf, .int X_many, .ref aXblocks, .int X_found, .int X_encodedBits, .ref aXencoded, .int X_fedMany, .ref aXfed, .int X_readAt, .int X_why, .int X_tried, .int X_waiting, .ref aXpile, .int q1154.2.2.1, .ref aXnews, .ref aXolds, .ref aXhalves, .ref aXds, .ref aXrs, .ref aXbest, .long X_bestError])) := hN_X
  have hN_Xnews : zA ws 28 (aXnews, .inl (cI, Xnews_n, .inl q1154.2.2.2.1)) := hN_Xnews
  have hN_Xolds : zA ws 29 (aXolds, .inl (cI, Xolds_n, .inl q1154.2.2.2.2.1)) := hN_Xolds
  have hN_Xhalves : zA ws 30 (aXhalves, .inl (cI, Xhalves_n, .inl q1154.2.2.2.2.2)) := hN_Xhalves
  have hN_O := (hfr _ (by decide)).trans hN_O
  have hN_N := (hfr _ (by decide)).trans hN_N
  have hN_NA := (hfr _ (by decide)).trans hN_NA
  have hN_H := (hfr _ (by decide)).trans hN_H
  have hN_HA := (hfr _ (by decide)).trans hN_HA
  have hN_V := (hfr _ (by decide)).trans hN_V
  have hN_K := (hfr _ (by decide)).trans hN_K
  have hN_KA := (hfr _ (by decide)).trans hN_KA
  have hN_Xblocks := (hfr _ (by decide)).trans hN_Xblocks
  have hN_OUT := (hfr _ (by decide)).trans hN_OUT
  have hw := z_frC (by decide) hw hfr
  refine lv_istore (lv' := [(6, .int q1154.1), (5, .int q1153.1), (0, .ref b), (1, .ref aO), (2, .ref aX), (3, .ref aOUT), (4, .int v4)]) hx hb d_L_law_597 hl (by decide) rfl (fun ls hl => ?_)
  refine lv_aload_n hx hb d_L_law_599 rfl (lv_at hl 4 rfl) ?_
  obtain ⟨q1155, hc, hf⟩ := z_b hf
  refine vp_callSi (z_cr (va_runV (As := []) (rest := []) ⟨hx, hb, hml, hown, hts⟩ (c_M_thrown l dC dI cI cL hN_X q1155 hc) (cw_L_72 hts ⟨Nat.le_of_ble_eq_true rfl, Nat.le_of_ble_eq_true rfl⟩) ⟨zbR, va_recv hK hP (ci := 7) rfl hN_X, (zpR hP hK hZ)⟩ rfl rfl hl.1 rfl (lv_room (Nat.le_of_ble_eq_true rfl)) d_L_law_600 ⟨hc1, hc2⟩)) (fun r1156 hv => ?_)
  have hv := hv.symm
  subst hv
  refine lv_iload hx hb d_L_law_603 (lv_at hl 1 rfl) ?_
  refine lv_icmp_eq (tgt := 610) hx hb d_L_law_605 (by decide) (fun hc => ?_) (fun hc => ?_)
  · have hf := z_t hc hf
    refine lv_iload hx hb d_L_law_610 (lv_at hl 1 rfl) ?_
    refine lv_if_ne (tgt := 627) hx hb d_L_law_612 (by decide) (fun hc => ?_) (fun hc => ?_)
    · have hf := z_f hc hf
      refine lv_goto (tgt := 974) hx hb d_L_law_627 (by decide) ?_
      obtain rfl := Option.some.inj hf
      exact kt _ _ _ ls _ _ (Nat.le_refl _) (Nat.le_refl _) (lv_sub hl [2, 3, 4, 5, 6] rfl) hP hD hS hN_N hN_NA hN_H hN_HA hN_V hN_X hN_Xnews hN_Xolds hN_Xhalves hN_OUT hw
    · have hf := z_t hc hf
      refine lv_aload_n hx hb d_L_law_615 rfl (lv_at hl 5 rfl) ?_
      refine lv_iconst (v := 0) hx hb d_L_law_616 (by decide) ?_
      obtain ⟨hin, hf⟩ := z_no hf
      refine va_lald hx hb hK hP _ 1 hN_OUT rfl hin d_L_law_617 ?_
      refine lv_iload hx hb d_L_law_618 (lv_at hl 0 rfl) ?_
      refine lv_i2l hx hb d_L_law_620 rfl ?_
      refine W.lcmp hx hb d_L_law_621 ?_
      refine lv_if_eq (tgt := 627) hx hb d_L_law_622 (by decide) (fun hc => ?_) (fun hc => ?_)
      · have hf := z_t hc hf
        refine lv_goto (tgt := 974) hx hb d_L_law_627 (by decide) ?_
        obtain rfl := Option.some.inj hf
        exact kt _ _ _ ls _ _ (Nat.le_refl _) (Nat.le_refl _) (lv_sub hl [2, 3, 4, 5, 6] rfl) hP hD hS hN_N hN_NA hN_H hN_HA hN_V hN_X hN_Xnews hN_Xolds hN_Xhalves hN_OUT hw
      · have hf := z_f hc hf
        refine lv_iconst (v := 0) hx hb d_L_law_625 (by decide) ?_
        cases hf
  · have hf := z_f hc hf
    refine lv_iconst (v := 0) hx hb d_L_law_608 (by decide) ?_
    cases hf
def f_LW_9 (a1 : Int32) (a2 : Int32) (N_side : Int32) (NA_n : Nat) (NA_f : Nat → Int32) (X_code : Int32) (X_decoded : Int32) (Xnews_n : Nat) (Xnews_f : Nat → Int32) (OUT_n : Nat) (OUT_f : Nat → Int64) : Option (Int32 × (Nat → Int64)) := (f_L_at a1 a2 N_side NA_n NA_f OUT_n OUT_f).bind (fun q1157 => (f_M_at a1 a2 X_code X_decoded Xnews_n Xnews_f).bind (fun q1158 => (f_M_thrown q1158.2).bind (fun q1159 => if q1159 = q1157.1 then (if q1157.1 = 0 then (if (0 : Int32) < 0 ∨ OUT_n ≤ (0 : Int32).toNatClampNeg then none else (if (lg_cmp (q1157.2 (0 : Int32).toNatClampNeg) q1158.1.toInt64) = 0 then (some (q1158.2, q1157.2)) else (none))) else (some (q1158.2, q1157.2))) else (none))))
set_option maxHeartbeats 4000000 in
set_option maxRecDepth 100000 in
theorem lc_9 {p : Program} {l : Launch} {e : Env} {s : State} {m : MethodId} {below : List Frame} {meth : Method} {c : Code} {b L : Nat} {xs : Nat → Int32} {dC : Nat → ClassId} {dI : Nat → Nat → Nat} {cI cL : ClassId} {A : Nat → Prop} {Q : State → Prop} {ws0 : va_W} {H : Heap} {locs : List Loc} {cells slots : Nat} {ls : Array Slot} {v4 : Int32} {aO aP aN aH aV aS aK aT aC aI aNA aX aXpicture aXhalf aXblocks aXencoded aXfed aXpile aXnews aXolds aXhalves aXds aXrs aXbest aOUT : Nat} {O_side : Int32} {N_mostSide : Int32} {N_side : Int32} {NA_n : Nat} {NA_f : Nat → Int32} {X_code : Int32} {X_side : Int32} {X_many : Int32} {X_found : Int32} {X_encodedBits : Int32} {X_fedMany : Int32} {X_readAt : Int32} {X_why : Int32} {X_tried : Int32} {X_waiting : Int32} {X_decoded : Int32} {X_bestError : Int64} {Xnews_n : Nat} {Xnews_f : Nat → Int32} {OUT_n : Nat} {OUT_f : Nat → Int64} (fx : lwFix p l s m c b L xs dC dI cI cL A) (hc1 : cells + 1 ≤ room_1.cells) (hc2 : slots + 6 ≤ room_1.slots) (hl : lv_has ls 8 [(0, .ref b), (1, .ref aO), (2, .ref aX), (3, .ref aOUT), (4, .int v4)]) (hP : va_P (dC, dI) classes ws0 H) (hD : va_D A ws0) (hS : va_S A s.heap H locs) (hN_O : zA ws0 0 (aO, .inr (0, [.int O_side, .ref aP, .ref aN, .ref aH, .ref aV, .ref aS, .ref aK, .ref aT, .ref aC, .ref aI]))) (hN_N : zA ws0 3 (aN, .inr (1, [.int N_mostSide, .ref aNA, .int N_side]))) (hN_NA : zA ws0 4 (aNA, .inl (cI, NA_n, .inl NA_f))) (hN_X : zA ws0 21 (aX, .inr (7, [.int X_code, .int X_side, .ref aXpicture, .ref aXhalf, .int X_many, .ref aXblocks, .int X_found, .int X_encodedBits, .ref aXencoded, .int X_fedMany, .ref aXfed, .int X_readAt, .int X_why, .int X_tried, .int X_waiting, .ref aXpile, .int X_decoded, .ref aXnews, .ref aXolds, .ref aXhalves, .ref aXds, .ref aXrs, .ref aXbest, .long X_bestError]))) (hN_Xnews : zA ws0 28 (aXnews, .inl (cI, Xnews_n, .inl Xnews_f))) (hN_OUT : zA ws0 34 (aOUT, .inl (cL, OUT_n, .inr (.inl OUT_f)))) (hin1 : vp_in (v4 + (1 : Int32)) L) (hin2 : vp_in (v4 + (2 : Int32)) L) (r : Int32 × (Nat → Int64)) (hf : f_LW_9 (xs (v4 + (1 : Int32)).toNatClampNeg) (xs (v4 + (2 : Int32)).toNatClampNeg) N_side NA_n NA_f X_code X_decoded Xnews_n Xnews_f OUT_n OUT_f = some r) (kt : ∀ (ws : va_W) (H : Heap) (locs : List Loc) (ls : Array Slot) (ce sl : Nat), ce ≤ cells + 1 → sl ≤ slots + 6 → lv_has ls 8 [(0, .ref b), (1, .ref aO), (2, .ref aX), (3, .ref aOUT), (4, .int v4)] → va_P (dC, dI) classes ws H → va_D A ws → va_S A s.heap H locs → zA ws 21 (aX, .inr (7, [.int r.1, .int X_side, .ref aXpicture, .ref aXhalf, .int X_many, .ref aXblocks, .int X_found, .int X_encodedBits, .ref aXencoded, .int X_fedMany, .ref aXfed, .int X_readAt, .int X_why, .int X_tried, .int X_waiting, .ref aXpile, .int X_decoded, .ref aXnews, .ref aXolds, .ref aXhalves, .ref aXds, .ref aXrs, .ref aXbest, .long X_bestError])) → zA ws 34 (aOUT, .inl (cL, OUT_n, .inr (.inl r.2))) → (∀ (j : Nat), j ∉ ([21, 34] : List Nat) → ws[j]? = ws0[j]?) → W p l e room_1 s m #[Value.ref b] below meth c H locs ce sl Q (F0 m 974 ls [])) : W p l e room_1 s m #[Value.ref b] below meth c H locs cells slots Q (F0 m 630 ls []) := by
  obtain ⟨hfl, hx, hb, hml, hown, hts, hK, hZ, hX, hXs, hbl, hbA, hA, hA2⟩ := fx
  have hc10 : cells ≤ room_1.cells := Nat.le_of_succ_le hc1
  have hc20 : slots ≤ room_1.slots := Nat.le_trans (Nat.le_add_right _ _) hc2
  have hw : ∀ (j : Nat), j ∉ ([21, 34] : List Nat) → ws0[j]? = ws0[j]? := fun _ _ => rfl
  unfold f_LW_9 at hf
  refine lv_aload_n hx hb d_L_law_630 rfl (lv_at hl 1 rfl) ?_
  refine lv_aload_n hx hb d_L_law_631 rfl (lv_at hl 0 rfl) ?_
  refine lv_iload hx hb d_L_law_632 (lv_at hl 4 rfl) ?_
  refine lv_iconst (v := 1) hx hb d_L_law_634 (by decide) ?_
  refine lv_iadd hx hb d_L_law_635 ?_
  refine va_sld hx hb hXs hbl hbA hS hin1 d_L_law_636 ?_
  refine lv_aload_n hx hb d_L_law_637 rfl (lv_at hl 0 rfl) ?_
  refine lv_iload hx hb d_L_law_638 (lv_at hl 4 rfl) ?_
  refine lv_iconst (v := 2) hx hb d_L_law_640 (by decide) ?_
  refine lv_iadd hx hb d_L_law_641 ?_
  refine va_sld hx hb hXs hbl hbA hS hin2 d_L_law_642 ?_
  refine lv_aload_n hx hb d_L_law_643 rfl (lv_at hl 3 rfl) ?_
  obtain ⟨q1157, hc, hf⟩ := z_b hf
  have hFc := z_free hD hS hA
  refine va_calli (z_runSW (As := [.ref aO, .int (xs (v4 + (1 : Int32)).toNatClampNeg), .int (xs (v4 + (2 : Int32)).toNatClampNeg), .ref aOUT]) (rest := []) ⟨hx, hb, hml, hown, hts⟩ (c_L_at l hfl dC dI cI cL _ (xs (v4 + (1 : Int32)).toNatClampNeg) (xs (v4 + (2 : Int32)).toNatClampNeg) hN_O hN_N hN_NA hN_OUT q1157 hc) (cw_L_104 hts ⟨Nat.le_of_ble_eq_true rfl, Nat.le_of_ble_eq_true rfl⟩) ⟨zbT, zpT hP hK hZ hD hX (z_keep hA2 hS)⟩ rfl rfl hl.1 rfl (lv_room (Nat.le_of_ble_eq_true rfl)) d_L_law_644 ⟨hc1, hc2⟩) hS (fun q _ h => hFc q h) hFc (fun rv ws t H locs ht hvm hu hB hz1 hk1 hS => ?_)
  obtain ⟨hv, hN_OUT, hfr⟩ := hu
  have hv := hv.symm
  subst hv
  obtain ⟨hP, -, hD1⟩ := hB
  rw [ht] at hP
  have hD := hD1.weaken (fun _ _ _ h => hFc _ h)
  have hN_OUT : zA ws 34 (aOUT, .inl (cL, OUT_n, .inr (.inl q1157.2))) := hN_OUT
  have hN_O := (hfr _ (by decide)).trans hN_O
  have hN_N := (hfr _ (by decide)).trans hN_N
  have hN_NA := (hfr _ (by decide)).trans hN_NA
  have hN_X := (hfr _ (by decide)).trans hN_X
  have hN_Xnews := (hfr _ (by decide)).trans hN_Xnews
  have hw := z_frC (by decide) hw hfr
  refine lv_istore (lv' := [(5, .int q1157.1), (0, .ref b), (1, .ref aO), (2, .ref aX), (3, .ref aOUT), (4, .int v4)]) hx hb d_L_law_647 hl (by decide) rfl (fun ls hl => ?_)
  refine lv_aload_n hx hb d_L_law_649 rfl (lv_at hl 3 rfl) ?_
  refine lv_aload_n hx hb d_L_law_650 rfl (lv_at hl 1 rfl) ?_
  refine lv_iload hx hb d_L_law_651 (lv_at hl 5 rfl) ?_
  refine lv_iconst (v := 1) hx hb d_L_law_653 (by decide) ?_
  refine lv_iadd hx hb d_L_law_654 ?_
  refine va_sld hx hb hXs hbl hbA hS hin1 d_L_law_655 ?_
  refine lv_aload_n hx hb d_L_law_656 rfl (lv_at hl 1 rfl) ?_
  refine lv_iload hx hb d_L_law_657 (lv_at hl 5 rfl) ?_
  refine lv_iconst (v := 2) hx hb d_L_law_659 (by decide) ?_
  refine lv_iadd hx hb d_L_law_660 ?_
  refine va_sld hx hb hXs hbl hbA hS hin2 d_L_law_661 ?_
  obtain ⟨q1158, hc, hf⟩ := z_b hf
  have hFc := z_free hD hS hA
  refine va_calli (va_runV (As := [.int (xs (v4 + (1 : Int32)).toNatClampNeg), .int (xs (v4 + (2 : Int32)).toNatClampNeg)]) (rest := []) ⟨hx, hb, hml, hown, hts⟩ (c_M_at l dC dI cI cL _ (xs (v4 + (1 : Int32)).toNatClampNeg) (xs (v4 + (2 : Int32)).toNatClampNeg) hN_X hN_Xnews q1158 hc) (cw_L_106 hts ⟨Nat.le_of_ble_eq_true rfl, Nat.le_of_ble_eq_true rfl⟩) ⟨zbM, va_recv hK hP (ci := 7) rfl hN_X, (zpM hP hK hZ hD)⟩ rfl rfl hl.1 rfl (lv_room (Nat.le_of_ble_eq_true rfl)) d_L_law_662 ⟨hc1, hc2⟩) hS (fun q _ h => hFc q h) hFc (fun rv ws t H locs ht hvm hu hB hz1 hk1 hS => ?_)
  obtain ⟨hv, hN_X, hfr⟩ := hu
  subst hv
  obtain ⟨hP, -, hD1⟩ := hB
  rw [ht] at hP
  have hD := hD1.weaken (fun _ _ _ h => hFc _ h)
  have hN_X : zA ws 21 (aX, .inr (7, [.int q1158.2, .int X_side, .ref aXpicture, .ref aXhalf, .int X_many, .ref aXblocks, .int X_found, .int X_encodedBits, .ref aXencoded, .int X_fedMany, .ref aXfed, .int X_readAt, .int X_why, .int X_tried, .int X_waiting, .ref aXpile, .int X_decoded, .ref aXnews, .ref aXolds, .ref aXhalves, .ref aXds, .ref aXrs, .ref aXbest, .long X_bestError])) := hN_X
  have hN_O := (hfr _ (by decide)).trans hN_O
  have hN_N := (hfr _ (by decide)).trans hN_N
  have hN_NA := (hfr _ (by decide)).trans hN_NA
  have hN_Xnews := (hfr _ (by decide)).trans hN_Xnews
  have hN_OUT := (hfr _ (by decide)).trans hN_OUT
  have hw := z_frC (by decide) hw hfr
  refine lv_istore (lv' := [(6, .int q1158.1), (5, .int q1157.1), (0, .ref b), (1, .ref aO), (2, .ref aX), (3, .ref aOUT), (4, .int v4)]) hx hb d_L_law_665 hl (by decide) rfl (fun ls hl => ?_)
  refine lv_aload_n hx hb d_L_law_667 rfl (lv_at hl 4 rfl) ?_
  obtain ⟨q1159, hc, hf⟩ := z_b hf
  refine vp_callSi (z_cr (va_runV (As := []) (rest := []) ⟨hx, hb, hml, hown, hts⟩ (c_M_thrown l dC dI cI cL hN_X q1159 hc) (cw_L_72 hts ⟨Nat.le_of_ble_eq_true rfl, Nat.le_of_ble_eq_true rfl⟩) ⟨zbR, va_recv hK hP (ci := 7) rfl hN_X, (zpR hP hK hZ)⟩ rfl rfl hl.1 rfl (lv_room (Nat.le_of_ble_eq_true rfl)) d_L_law_668 ⟨hc1, hc2⟩)) (fun r1160 hv => ?_)
  have hv := hv.symm
  subst hv
  refine lv_iload hx hb d_L_law_671 (lv_at hl 1 rfl) ?_
  refine lv_icmp_eq (tgt := 678) hx hb d_L_law_673 (by decide) (fun hc => ?_) (fun hc => ?_)
  · have hf := z_t hc hf
    refine lv_iload hx hb d_L_law_678 (lv_at hl 1 rfl) ?_
    refine lv_if_ne (tgt := 695) hx hb d_L_law_680 (by decide) (fun hc => ?_) (fun hc => ?_)
    · have hf := z_f hc hf
      refine lv_goto (tgt := 974) hx hb d_L_law_695 (by decide) ?_
      obtain rfl := Option.some.inj hf
      exact kt _ _ _ ls _ _ (Nat.le_refl _) (Nat.le_refl _) (lv_sub hl [2, 3, 4, 5, 6] rfl) hP hD hS hN_X hN_OUT hw
    · have hf := z_t hc hf
      refine lv_aload_n hx hb d_L_law_683 rfl (lv_at hl 5 rfl) ?_
      refine lv_iconst (v := 0) hx hb d_L_law_684 (by decide) ?_
      obtain ⟨hin, hf⟩ := z_no hf
      refine va_lald hx hb hK hP _ 1 hN_OUT rfl hin d_L_law_685 ?_
      refine lv_iload hx hb d_L_law_686 (lv_at hl 0 rfl) ?_
      refine lv_i2l hx hb d_L_law_688 rfl ?_
      refine W.lcmp hx hb d_L_law_689 ?_
      refine lv_if_eq (tgt := 695) hx hb d_L_law_690 (by decide) (fun hc => ?_) (fun hc => ?_)
      · have hf := z_t hc hf
        refine lv_goto (tgt := 974) hx hb d_L_law_695 (by decide) ?_
        obtain rfl := Option.some.inj hf
        exact kt _ _ _ ls _ _ (Nat.le_refl _) (Nat.le_refl _) (lv_sub hl [2, 3, 4, 5, 6] rfl) hP hD hS hN_X hN_OUT hw
      · have hf := z_f hc hf
        refine lv_iconst (v := 0) hx hb d_L_law_693 (by decide) ?_
        cases hf
  · have hf := z_f hc hf
    refine lv_iconst (v := 0) hx hb d_L_law_676 (by decide) ?_
    cases hf
def f_LW_10 (O_side : Int32) (P_side : Int32) (PA_n : Nat) (PA_f : Nat → Int32) (N_side : Int32) (NA_n : Nat) (NA_f : Nat → Int32) (X_code : Int32) (X_side : Int32) (X_decoded : Int32) (Xpicture_n : Nat) (Xpicture_f : Nat → Int32) (Xnews_n : Nat) (Xnews_f : Nat → Int32) (OUT_n : Nat) (OUT_f : Nat → Int64) : Option (Int32 × (Nat → Int64)) := (f_L_missed O_side P_side PA_n PA_f N_side NA_n NA_f OUT_n OUT_f).bind (fun q1161 => (f_M_missed X_code X_side X_decoded Xpicture_n Xpicture_f Xnews_n Xnews_f).bind (fun q1162 => (f_M_thrown q1162.2).bind (fun q1163 => if q1163 = q1161.1 then (if q1161.1 = 0 then (if (0 : Int32) < 0 ∨ OUT_n ≤ (0 : Int32).toNatClampNeg then none else (if (lg_cmp (q1161.2 (0 : Int32).toNatClampNeg) q1162.1) = 0 then (some (q1162.2, q1161.2)) else (none))) else (some (q1162.2, q1161.2))) else (none))))
set_option maxHeartbeats 4000000 in
set_option maxRecDepth 100000 in
theorem lc_10 {p : Program} {l : Launch} {e : Env} {s : State} {m : MethodId} {below : List Frame} {meth : Method} {c : Code} {b L : Nat} {xs : Nat → Int32} {dC : Nat → ClassId} {dI : Nat → Nat → Nat} {cI cL : ClassId} {A : Nat → Prop} {Q : State → Prop} {ws0 : va_W} {H : Heap} {locs : List Loc} {cells slots : Nat} {ls : Array Slot} {v4 : Int32} {aO aP aN aH aV aS aK aT aC aI aPA aNA aX aXpicture aXhalf aXblocks aXencoded aXfed aXpile aXnews aXolds aXhalves aXds aXrs aXbest aOUT : Nat} {O_side : Int32} {P_mostSide : Int32} {P_side : Int32} {PA_n : Nat} {PA_f : Nat → Int32} {N_mostSide : Int32} {N_side : Int32} {NA_n : Nat} {NA_f : Nat → Int32} {X_code : Int32} {X_side : Int32} {X_many : Int32} {X_found : Int32} {X_encodedBits : Int32} {X_fedMany : Int32} {X_readAt : Int32} {X_why : Int32} {X_tried : Int32} {X_waiting : Int32} {X_decoded : Int32} {X_bestError : Int64} {Xpicture_n : Nat} {Xpicture_f : Nat → Int32} {Xnews_n : Nat} {Xnews_f : Nat → Int32} {OUT_n : Nat} {OUT_f : Nat → Int64} (fx : lwFix p l s m c b L xs dC dI cI cL A) (hc1 : cells + 1 ≤ room_1.cells) (hc2 : slots + 6 ≤ room_1.slots) (hl : lv_has ls 8 [(0, .ref b), (1, .ref aO), (2, .ref aX), (3, .ref aOUT), (4, .int v4)]) (hP : va_P (dC, dI) classes ws0 H) (hD : va_D A ws0) (hS : va_S A s.heap H locs) (hN_O : zA ws0 0 (aO, .inr (0, [.int O_side, .ref aP, .ref aN, .ref aH, .ref aV, .ref aS, .ref aK, .ref aT, .ref aC, .ref aI]))) (hN_P : zA ws0 1 (aP, .inr (1, [.int P_mostSide, .ref aPA, .int P_side]))) (hN_PA : zA ws0 2 (aPA, .inl (cI, PA_n, .inl PA_f))) (hN_N : zA ws0 3 (aN, .inr (1, [.int N_mostSide, .ref aNA, .int N_side]))) (hN_NA : zA ws0 4 (aNA, .inl (cI, NA_n, .inl NA_f))) (hN_X : zA ws0 21 (aX, .inr (7, [.int X_code, .int X_side, .ref aXpicture, .ref aXhalf, .int X_many, .ref aXblocks, .int X_found, .int X_encodedBits, .ref aXencoded, .int X_fedMany, .ref aXfed, .int X_readAt, .int X_why, .int X_tried, .int X_waiting, .ref aXpile, .int X_decoded, .ref aXnews, .ref aXolds, .ref aXhalves, .ref aXds, .ref aXrs, .ref aXbest, .long X_bestError]))) (hN_Xpicture : zA ws0 22 (aXpicture, .inl (cI, Xpicture_n, .inl Xpicture_f))) (hN_Xnews : zA ws0 28 (aXnews, .inl (cI, Xnews_n, .inl Xnews_f))) (hN_OUT : zA ws0 34 (aOUT, .inl (cL, OUT_n, .inr (.inl OUT_f)))) (r : Int32 × (Nat → Int64)) (hf : f_LW_10 O_side P_side PA_n PA_f N_side NA_n NA_f X_code X_side X_decoded Xpicture_n Xpicture_f Xnews_n Xnews_f OUT_n OUT_f = some r) (kt : ∀ (ws : va_W) (H : Heap) (locs : List Loc) (ls : Array Slot) (ce sl : Nat), ce ≤ cells + 1 → sl ≤ slots + 6 → lv_has ls 8 [(0, .ref b), (1, .ref aO), (2, .ref aX), (3, .ref aOUT), (4, .int v4)] → va_P (dC, dI) classes ws H → va_D A ws → va_S A s.heap H locs → zA ws 21 (aX, .inr (7, [.int r.1, .int X_side, .ref aXpicture, .ref aXhalf, .int X_many, .ref aXblocks, .int X_found, .int X_encodedBits, .ref aXencoded, .int X_fedMany, .ref aXfed, .int X_readAt, .int X_why, .int X_tried, .int X_waiting, .ref aXpile, .int X_decoded, .ref aXnews, .ref aXolds, .ref aXhalves, .ref aXds, .ref aXrs, .ref aXbest, .long X_bestError])) → zA ws 34 (aOUT, .inl (cL, OUT_n, .inr (.inl r.2))) → (∀ (j : Nat), j ∉ ([21, 34] : List Nat) → ws[j]? = ws0[j]?) → W p l e room_1 s m #[Value.ref b] below meth c H locs ce sl Q (F0 m 974 ls [])) : W p l e room_1 s m #[Value.ref b] below meth c H locs cells slots Q (F0 m 698 ls []) := by
  obtain ⟨hfl, hx, hb, hml, hown, hts, hK, hZ, hX, hXs, hbl, hbA, hA, hA2⟩ := fx
  have hc10 : cells ≤ room_1.cells := Nat.le_of_succ_le hc1
  have hc20 : slots ≤ room_1.slots := Nat.le_trans (Nat.le_add_right _ _) hc2
  have hw : ∀ (j : Nat), j ∉ ([21, 34] : List Nat) → ws0[j]? = ws0[j]? := fun _ _ => rfl
  unfold f_LW_10 at hf
  refine lv_aload_n hx hb d_L_law_698 rfl (lv_at hl 1 rfl) ?_
  refine lv_aload_n hx hb d_L_law_699 rfl (lv_at hl 3 rfl) ?_
  obtain ⟨q1161, hc, hf⟩ := z_b hf
  have hFc := z_free hD hS hA
  refine va_calli (z_runSW (As := [.ref aO, .ref aOUT]) (rest := []) ⟨hx, hb, hml, hown, hts⟩ (c_L_missed l hfl dC dI cI cL _ hN_O hN_P hN_PA hN_N hN_NA hN_OUT q1161 hc) (cw_L_107 hts ⟨Nat.le_of_ble_eq_true rfl, Nat.le_of_ble_eq_true rfl⟩) ⟨zbT, zpT hP hK hZ hD hX (z_keep hA2 hS)⟩ rfl rfl hl.1 rfl (lv_room (Nat.le_of_ble_eq_true rfl)) d_L_law_700 ⟨hc1, hc2⟩) hS (fun q _ h => hFc q h) hFc (fun rv ws t H locs ht hvm hu hB hz1 hk1 hS => ?_)
  obtain ⟨hv, hN_OUT, hfr⟩ := hu
  have hv := hv.symm
  subst hv
  obtain ⟨hP, -, hD1⟩ := hB
  rw [ht] at hP
  have hD := hD1.weaken (fun _ _ _ h => hFc _ h)
  have hN_OUT : zA ws 34 (aOUT, .inl (cL, OUT_n, .inr (.inl q1161.2))) := hN_OUT
  have hN_O := (hfr _ (by decide)).trans hN_O
  have hN_P := (hfr _ (by decide)).trans hN_P
  have hN_PA := (hfr _ (by decide)).trans hN_PA
  have hN_N := (hfr _ (by decide)).trans hN_N
  have hN_NA := (hfr _ (by decide)).trans hN_NA
  have hN_X := (hfr _ (by decide)).trans hN_X
  have hN_Xpicture := (hfr _ (by decide)).trans hN_Xpicture
  have hN_Xnews := (hfr _ (by decide)).trans hN_Xnews
  have hw := z_frC (by decide) hw hfr
  refine lv_istore (lv' := [(5, .int q1161.1), (0, .ref b), (1, .ref aO), (2, .ref aX), (3, .ref aOUT), (4, .int v4)]) hx hb d_L_law_703 hl (by decide) rfl (fun ls hl => ?_)
  refine lv_aload_n hx hb d_L_law_705 rfl (lv_at hl 3 rfl) ?_
  obtain ⟨q1162, hc, hf⟩ := z_b hf
  have hFc := z_free hD hS hA
  refine va_calll (va_runV (As := []) (rest := []) ⟨hx, hb, hml, hown, hts⟩ (c_M_missed l dC dI cI cL _ hN_X hN_Xpicture hN_Xnews q1162 hc) (cw_L_109 hts ⟨Nat.le_of_ble_eq_true rfl, Nat.le_of_ble_eq_true rfl⟩) ⟨zbM, va_recv hK hP (ci := 7) rfl hN_X, (zpM hP hK hZ hD)⟩ rfl rfl hl.1 rfl (lv_room (Nat.le_of_ble_eq_true rfl)) d_L_law_706 ⟨hc1, hc2⟩) hS (fun q _ h => hFc q h) hFc (fun rv ws t H locs ht hvm hu hB hz1 hk1 hS => ?_)
  obtain ⟨hv, hN_X, hfr⟩ := hu
  subst hv
  obtain ⟨hP, -, hD1⟩ := hB
  rw [ht] at hP
  have hD := hD1.weaken (fun _ _ _ h => hFc _ h)
  have hN_X : zA ws 21 (aX, .inr (7, [.int q1162.2, .int X_side, .ref aXpicture, .ref aXhalf, .int X_many, .ref aXblocks, .int X_found, .int X_encodedBits, .ref aXencoded, .int X_fedMany, .ref aXfed, .int X_readAt, .int X_why, .int X_tried, .int X_waiting, .ref aXpile, .int X_decoded, .ref aXnews, .ref aXolds, .ref aXhalves, .ref aXds, .ref aXrs, .ref aXbest, .long X_bestError])) := hN_X
  have hN_O := (hfr _ (by decide)).trans hN_O
  have hN_P := (hfr _ (by decide)).trans hN_P
  have hN_PA := (hfr _ (by decide)).trans hN_PA
  have hN_N := (hfr _ (by decide)).trans hN_N
  have hN_NA := (hfr _ (by decide)).trans hN_NA
  have hN_Xpicture := (hfr _ (by decide)).trans hN_Xpicture
  have hN_Xnews := (hfr _ (by decide)).trans hN_Xnews
  have hN_OUT := (hfr _ (by decide)).trans hN_OUT
  have hw := z_frC (by decide) hw hfr
  refine lv_lstore (lv' := [(6, .long q1162.1), (5, .int q1161.1), (0, .ref b), (1, .ref aO), (2, .ref aX), (3, .ref aOUT), (4, .int v4)]) hx hb d_L_law_709 hl (by decide) rfl (fun ls hl => ?_)
  refine lv_aload_n hx hb d_L_law_711 rfl (lv_at hl 4 rfl) ?_
  obtain ⟨q1163, hc, hf⟩ := z_b hf
  refine vp_callSi (z_cr (va_runV (As := []) (rest := []) ⟨hx, hb, hml, hown, hts⟩ (c_M_thrown l dC dI cI cL hN_X q1163 hc) (cw_L_72 hts ⟨Nat.le_of_ble_eq_true rfl, Nat.le_of_ble_eq_true rfl⟩) ⟨zbR, va_recv hK hP (ci := 7) rfl hN_X, (zpR hP hK hZ)⟩ rfl rfl hl.1 rfl (lv_room (Nat.le_of_ble_eq_true rfl)) d_L_law_712 ⟨hc1, hc2⟩)) (fun r1164 hv => ?_)
  have hv := hv.symm
  subst hv
  refine lv_iload hx hb d_L_law_715 (lv_at hl 1 rfl) ?_
  refine lv_icmp_eq (tgt := 722) hx hb d_L_law_717 (by decide) (fun hc => ?_) (fun hc => ?_)
  · have hf := z_t hc hf
    refine lv_iload hx hb d_L_law_722 (lv_at hl 1 rfl) ?_
    refine lv_if_ne (tgt := 738) hx hb d_L_law_724 (by decide) (fun hc => ?_) (fun hc => ?_)
    · have hf := z_f hc hf
      refine lv_goto (tgt := 974) hx hb d_L_law_738 (by decide) ?_
      obtain rfl := Option.some.inj hf
      exact kt _ _ _ ls _ _ (Nat.le_refl _) (Nat.le_refl _) (lv_sub hl [2, 3, 4, 5, 6] rfl) hP hD hS hN_X hN_OUT hw
    · have hf := z_t hc hf
      refine lv_aload_n hx hb d_L_law_727 rfl (lv_at hl 5 rfl) ?_
      refine lv_iconst (v := 0) hx hb d_L_law_728 (by decide) ?_
      obtain ⟨hin, hf⟩ := z_no hf
      refine va_lald hx hb hK hP _ 1 hN_OUT rfl hin d_L_law_729 ?_
      refine lv_lload hx hb d_L_law_730 (lv_at hl 0 rfl) ?_
      refine W.lcmp hx hb d_L_law_732 ?_
      refine lv_if_eq (tgt := 738) hx hb d_L_law_733 (by decide) (fun hc => ?_) (fun hc => ?_)
      · have hf := z_t hc hf
        refine lv_goto (tgt := 974) hx hb d_L_law_738 (by decide) ?_
        obtain rfl := Option.some.inj hf
        exact kt _ _ _ ls _ _ (Nat.le_refl _) (Nat.le_refl _) (lv_sub hl [2, 3, 4, 5, 6] rfl) hP hD hS hN_X hN_OUT hw
      · have hf := z_f hc hf
        refine lv_iconst (v := 0) hx hb d_L_law_736 (by decide) ?_
        cases hf
  · have hf := z_f hc hf
    refine lv_iconst (v := 0) hx hb d_L_law_720 (by decide) ?_
    cases hf
