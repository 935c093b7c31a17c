def f_LW_11 (a1 : Int32) (a2 : Int32) (a3 : Int32) (a4 : Int32) (a5 : Int32) (O_side : Int32) (P_side : Int32) (PA_n : Nat) (PA_f : Nat → Int32) (H_mostSide : Int32) (H_side : Int32) (HA_n : Nat) (HA_f : Nat → Int32) (V_left : Int32) (V_top : Int32) (V_start : Int32) (V_stepAcross : Int32) (V_stepDown : Int32) (X_code : Int32) (X_side : Int32) (Xpicture_n : Nat) (Xpicture_f : Nat → Int32) (Xhalf_n : Nat) (Xhalf_f : Nat → Int32) (Xds_n : Nat) (Xds_f : Nat → Int32) (OUT_n : Nat) (OUT_f : Nat → Int64) : Option (Int32 × (Nat → Int32) × Int32 × Int32 × Int32 × Int32 × Int32 × Int32 × (Nat → Int32) × (Nat → Int32) × (Nat → Int64)) := (f_L_domain a1 a2 a3 a4 a5 O_side P_side PA_n PA_f H_mostSide H_side HA_n HA_f V_left V_top V_start V_stepAcross V_stepDown OUT_n OUT_f).bind (fun q1165 => (f_M_domain a1 a2 a3 a4 a5 X_code X_side Xpicture_n Xpicture_f Xhalf_n Xhalf_f Xds_n Xds_f).bind (fun q1166 => (f_M_thrown q1166.2.1).bind (fun q1167 => if q1167 = q1165.1 then (if q1165.1 = 0 then (if (0 : Int32) < 0 ∨ OUT_n ≤ (0 : Int32).toNatClampNeg then none else (if (lg_cmp (q1165.2.2.2.2.2.2.2.2 (0 : Int32).toNatClampNeg) q1166.1.toInt64) = 0 then (some (q1165.2.1, q1165.2.2.1, q1165.2.2.2.1, q1165.2.2.2.2.1, q1165.2.2.2.2.2.1, q1165.2.2.2.2.2.2.1, q1165.2.2.2.2.2.2.2.1, q1166.2.1, q1166.2.2.1, q1166.2.2.2, q1165.2.2.2.2.2.2.2.2)) else (none))) else (some (q1165.2.1, q1165.2.2.1, q1165.2.2.2.1, q1165.2.2.2.2.1, q1165.2.2.2.2.2.1, q1165.2.2.2.2.2.2.1, q1165.2.2.2.2.2.2.2.1, q1166.2.1, q1166.2.2.1, q1166.2.2.2, q1165.2.2.2.2.2.2.2.2))) else (none))))
set_option maxHeartbeats 4000000 in
set_option maxRecDepth 100000 in
theorem lc_11 {p : Program} {l : Launch} {e : Env} {s : State} {m : MethodId} {below : List Frame} {meth : Method} {c : Code} {b L : Nat} {xs : Nat → Int32} {dC : Nat → ClassId} {dI : Nat → Nat → Nat} {cI cL : ClassId} {A : Nat → Prop} {Q : State → Prop} {ws0 : va_W} {H : Heap} {locs : List Loc} {cells slots : Nat} {ls : Array Slot} {v4 : Int32} {aO aP aN aH aV aS aK aT aC aI aPA aHA aX aXpicture aXhalf aXblocks aXencoded aXfed aXpile aXnews aXolds aXhalves aXds aXrs aXbest aOUT : Nat} {O_side : Int32} {P_mostSide : Int32} {P_side : Int32} {PA_n : Nat} {PA_f : Nat → Int32} {H_mostSide : Int32} {H_side : Int32} {HA_n : Nat} {HA_f : Nat → Int32} {V_left : Int32} {V_top : Int32} {V_start : Int32} {V_stepAcross : Int32} {V_stepDown : Int32} {X_code : Int32} {X_side : Int32} {X_many : Int32} {X_found : Int32} {X_encodedBits : Int32} {X_fedMany : Int32} {X_readAt : Int32} {X_why : Int32} {X_tried : Int32} {X_waiting : Int32} {X_decoded : Int32} {X_bestError : Int64} {Xpicture_n : Nat} {Xpicture_f : Nat → Int32} {Xhalf_n : Nat} {Xhalf_f : Nat → Int32} {Xds_n : Nat} {Xds_f : Nat → Int32} {OUT_n : Nat} {OUT_f : Nat → Int64} (fx : lwFix p l s m c b L xs dC dI cI cL A) (hc1 : cells + 1 ≤ room_1.cells) (hc2 : slots + 6 ≤ room_1.slots) (hl : lv_has ls 8 [(0, .ref b), (1, .ref aO), (2, .ref aX), (3, .ref aOUT), (4, .int v4)]) (hP : va_P (dC, dI) classes ws0 H) (hD : va_D A ws0) (hS : va_S A s.heap H locs) (hN_O : zA ws0 0 (aO, .inr (0, [.int O_side, .ref aP, .ref aN, .ref aH, .ref aV, .ref aS, .ref aK, .ref aT, .ref aC, .ref aI]))) (hN_P : zA ws0 1 (aP, .inr (1, [.int P_mostSide, .ref aPA, .int P_side]))) (hN_PA : zA ws0 2 (aPA, .inl (cI, PA_n, .inl PA_f))) (hN_H : zA ws0 5 (aH, .inr (1, [.int H_mostSide, .ref aHA, .int H_side]))) (hN_HA : zA ws0 6 (aHA, .inl (cI, HA_n, .inl HA_f))) (hN_V : zA ws0 7 (aV, .inr (2, [.ref aH, .int V_left, .int V_top, .int V_start, .int V_stepAcross, .int V_stepDown]))) (hN_X : zA ws0 21 (aX, .inr (7, [.int X_code, .int X_side, .ref aXpicture, .ref aXhalf, .int X_many, .ref aXblocks, .int X_found, .int X_encodedBits, .ref aXencoded, .int X_fedMany, .ref aXfed, .int X_readAt, .int X_why, .int X_tried, .int X_waiting, .ref aXpile, .int X_decoded, .ref aXnews, .ref aXolds, .ref aXhalves, .ref aXds, .ref aXrs, .ref aXbest, .long X_bestError]))) (hN_Xpicture : zA ws0 22 (aXpicture, .inl (cI, Xpicture_n, .inl Xpicture_f))) (hN_Xhalf : zA ws0 23 (aXhalf, .inl (cI, Xhalf_n, .inl Xhalf_f))) (hN_Xds : zA ws0 31 (aXds, .inl (cI, Xds_n, .inl Xds_f))) (hN_OUT : zA ws0 34 (aOUT, .inl (cL, OUT_n, .inr (.inl OUT_f)))) (hin1 : vp_in (v4 + (1 : Int32)) L) (hin2 : vp_in (v4 + (2 : Int32)) L) (hin3 : vp_in (v4 + (3 : Int32)) L) (hin4 : vp_in (v4 + (4 : Int32)) L) (hin5 : vp_in (v4 + (5 : Int32)) L) (r : Int32 × (Nat → Int32) × Int32 × Int32 × Int32 × Int32 × Int32 × Int32 × (Nat → Int32) × (Nat → Int32) × (Nat → Int64)) (hf : f_LW_11 (xs (v4 + (1 : Int32)).toNatClampNeg) (xs (v4 + (2 : Int32)).toNatClampNeg) (xs (v4 + (3 : Int32)).toNatClampNeg) (xs (v4 + (4 : Int32)).toNatClampNeg) (xs (v4 + (5 : Int32)).toNatClampNeg) O_side P_side PA_n PA_f H_mostSide H_side HA_n HA_f V_left V_top V_start V_stepAcross V_stepDown X_code X_side Xpicture_n Xpicture_f Xhalf_n Xhalf_f Xds_n Xds_f OUT_n OUT_f = some r) (kt : ∀ (ws : va_W) (H : Heap) (locs : List Loc) (ls : Array Slot) (ce sl : Nat), ce ≤ cells + 1 → sl ≤ slots + 6 → lv_has ls 8 [(0, .ref b), (1, .ref aO), (2, .ref aX), (3, .ref aOUT), (4, .int v4)] → va_P (dC, dI) classes ws H → va_D A ws → va_S A s.heap H locs → zA ws 5 (aH, .inr (1, [.int H_mostSide, .ref aHA, .int r.1])) → zA ws 6 (aHA, .inl (cI, HA_n, .inl r.2.1)) → zA ws 7 (aV, .inr (2, [.ref aH, .int r.2.2.1, .int r.2.2.2.1, .int r.2.2.2.2.1, .int r.2.2.2.2.2.1, .int r.2.2.2.2.2.2.1])) → zA ws 21 (aX, .inr (7, [.int r.2.2.2.2.2.2.2.1, .int X_side, .ref aXpicture, .ref aXhalf, .int X_many, .ref aXblocks, .int X_found, .int X_encodedBits, .ref aXencoded, .int X_fedMany, .ref aXfed, .int X_readAt, .int X_why, .int X_tried, .int X_waiting, .ref aXpile, .int X_decoded, .ref aXnews, .ref aXolds, .ref aXhalves, .ref aXds, .ref aXrs, .ref aXbest, .long X_bestError])) → zA ws 23 (aXhalf, .inl (cI, Xhalf_n, .inl r.2.2.2.2.2.2.2.2.1)) → zA ws 31 (aXds, .inl (cI, Xds_n, .inl r.2.2.2.2.2.2.2.2.2.1)) → zA ws 34 (aOUT, .inl (cL, OUT_n, .inr (.inl r.2.2.2.2.2.2.2.2.2.2))) → (∀ (j : Nat), j ∉ ([5, 6, 7, 21, 23, 31, 34] : List Nat) → ws[j]? = ws0[j]?) → W p l e room_1 s m #[Value.ref b] below meth c H locs ce sl Q (F0 m 974 ls [])) : W p l e room_1 s m #[Value.ref b] below meth c H locs cells slots Q (F0 m 741 ls []) := by
  obtain ⟨hfl, hx, hb, hml, hown, hts, hK, hZ, hX, hXs, hbl, hbA, hA, hA2⟩ := fx
  have hc10 : cells ≤ room_1.cells := Nat.le_of_succ_le hc1
  have hc20 : slots ≤ room_1.slots := Nat.le_trans (Nat.le_add_right _ _) hc2
  have hw : ∀ (j : Nat), j ∉ ([5, 6, 7, 21, 23, 31, 34] : List Nat) → ws0[j]? = ws0[j]? := fun _ _ => rfl
  unfold f_LW_11 at hf
  refine lv_aload_n hx hb d_L_law_741 rfl (lv_at hl 1 rfl) ?_
  refine lv_aload_n hx hb d_L_law_742 rfl (lv_at hl 0 rfl) ?_
  refine lv_iload hx hb d_L_law_743 (lv_at hl 4 rfl) ?_
  refine lv_iconst (v := 1) hx hb d_L_law_745 (by decide) ?_
  refine lv_iadd hx hb d_L_law_746 ?_
  refine va_sld hx hb hXs hbl hbA hS hin1 d_L_law_747 ?_
  refine lv_aload_n hx hb d_L_law_748 rfl (lv_at hl 0 rfl) ?_
  refine lv_iload hx hb d_L_law_749 (lv_at hl 4 rfl) ?_
  refine lv_iconst (v := 2) hx hb d_L_law_751 (by decide) ?_
  refine lv_iadd hx hb d_L_law_752 ?_
  refine va_sld hx hb hXs hbl hbA hS hin2 d_L_law_753 ?_
  refine lv_aload_n hx hb d_L_law_754 rfl (lv_at hl 0 rfl) ?_
  refine lv_iload hx hb d_L_law_755 (lv_at hl 4 rfl) ?_
  refine lv_iconst (v := 3) hx hb d_L_law_757 (by decide) ?_
  refine lv_iadd hx hb d_L_law_758 ?_
  refine va_sld hx hb hXs hbl hbA hS hin3 d_L_law_759 ?_
  refine lv_aload_n hx hb d_L_law_760 rfl (lv_at hl 0 rfl) ?_
  refine lv_iload hx hb d_L_law_761 (lv_at hl 4 rfl) ?_
  refine lv_iconst (v := 4) hx hb d_L_law_763 (by decide) ?_
  refine lv_iadd hx hb d_L_law_764 ?_
  refine va_sld hx hb hXs hbl hbA hS hin4 d_L_law_765 ?_
  refine lv_aload_n hx hb d_L_law_766 rfl (lv_at hl 0 rfl) ?_
  refine lv_iload hx hb d_L_law_767 (lv_at hl 4 rfl) ?_
  refine lv_iconst (v := 5) hx hb d_L_law_769 (by decide) ?_
  refine lv_iadd hx hb d_L_law_770 ?_
  refine va_sld hx hb hXs hbl hbA hS hin5 d_L_law_771 ?_
  refine lv_aload_n hx hb d_L_law_772 rfl (lv_at hl 3 rfl) ?_
  obtain ⟨q1165, hc, hf⟩ := z_b hf
  have hFc := z_free hD hS hA
  refine va_calli (z_runSW (As := [.ref aO, .int (xs (v4 + (1 : Int32)).toNatClampNeg), .int (xs (v4 + (2 : Int32)).toNatClampNeg), .int (xs (v4 + (3 : Int32)).toNatClampNeg), .int (xs (v4 + (4 : Int32)).toNatClampNeg), .int (xs (v4 + (5 : Int32)).toNatClampNeg), .ref aOUT]) (rest := []) ⟨hx, hb, hml, hown, hts⟩ (c_L_domain l hfl dC dI cI cL _ (xs (v4 + (1 : Int32)).toNatClampNeg) (xs (v4 + (2 : Int32)).toNatClampNeg) (xs (v4 + (3 : Int32)).toNatClampNeg) (xs (v4 + (4 : Int32)).toNatClampNeg) (xs (v4 + (5 : Int32)).toNatClampNeg) hN_O hN_P hN_PA hN_H hN_HA hN_V hN_OUT q1165 hc) (cw_L_110 hts ⟨Nat.le_of_ble_eq_true rfl, Nat.le_of_ble_eq_true rfl⟩) ⟨zbT, zpT hP hK hZ hD hX (z_keep hA2 hS)⟩ rfl rfl hl.1 rfl (lv_room (Nat.le_of_ble_eq_true rfl)) d_L_law_773 ⟨hc1, hc2⟩) hS (fun q _ h => hFc q h) hFc (fun rv ws t H locs ht hvm hu hB hz1 hk1 hS => ?_)
  obtain ⟨hv, hN_H, hN_HA, hN_V, hN_OUT, hfr⟩ := hu
  have hv := hv.symm
  subst hv
  obtain ⟨hP, -, hD1⟩ := hB
  rw [ht] at hP
  have hD := hD1.weaken (fun _ _ _ h => hFc _ h)
  have hN_H : zA ws 5 (aH, .inr (1, [.int H_mostSide, .ref aHA, .int q1165.2.1])) := hN_H
  have hN_HA : zA ws 6 (aHA, .inl (cI, HA_n, .inl q1165.2.2.1)) := hN_HA
  have hN_V : zA ws 7 (aV, .inr (2, [.ref aH, .int q1165.2.2.2.1, .int q1165.2.2.2.2.1, .int q1165.2.2.2.2.2.1, .int q1165.2.2.2.2.2.2.1, .int q1165.2.2.2.2.2.2.2.1])) := hN_V
  have hN_OUT : zA ws 34 (aOUT, .inl (cL, OUT_n, .inr (.inl q1165.2.2.2.2.2.2.2.2))) := hN_OUT
  have hN_O := (hfr _ (by decide)).trans hN_O
  have hN_P := (hfr _ (by decide)).trans hN_P
  have hN_PA := (hfr _ (by decide)).trans hN_PA
  have hN_X := (hfr _ (by decide)).trans hN_X
  have hN_Xpicture := (hfr _ (by decide)).trans hN_Xpicture
  have hN_Xhalf := (hfr _ (by decide)).trans hN_Xhalf
  have hN_Xds := (hfr _ (by decide)).trans hN_Xds
  have hw := z_frC (by decide) hw hfr
  refine lv_istore (lv' := [(5, .int q1165.1), (0, .ref b), (1, .ref aO), (2, .ref aX), (3, .ref aOUT), (4, .int v4)]) hx hb d_L_law_776 hl (by decide) rfl (fun ls hl => ?_)
  refine lv_aload_n hx hb d_L_law_778 rfl (lv_at hl 3 rfl) ?_
  refine lv_aload_n hx hb d_L_law_779 rfl (lv_at hl 1 rfl) ?_
  refine lv_iload hx hb d_L_law_780 (lv_at hl 5 rfl) ?_
  refine lv_iconst (v := 1) hx hb d_L_law_782 (by decide) ?_
  refine lv_iadd hx hb d_L_law_783 ?_
  refine va_sld hx hb hXs hbl hbA hS hin1 d_L_law_784 ?_
  refine lv_aload_n hx hb d_L_law_785 rfl (lv_at hl 1 rfl) ?_
  refine lv_iload hx hb d_L_law_786 (lv_at hl 5 rfl) ?_
  refine lv_iconst (v := 2) hx hb d_L_law_788 (by decide) ?_
  refine lv_iadd hx hb d_L_law_789 ?_
  refine va_sld hx hb hXs hbl hbA hS hin2 d_L_law_790 ?_
  refine lv_aload_n hx hb d_L_law_791 rfl (lv_at hl 1 rfl) ?_
  refine lv_iload hx hb d_L_law_792 (lv_at hl 5 rfl) ?_
  refine lv_iconst (v := 3) hx hb d_L_law_794 (by decide) ?_
  refine lv_iadd hx hb d_L_law_795 ?_
  refine va_sld hx hb hXs hbl hbA hS hin3 d_L_law_796 ?_
  refine lv_aload_n hx hb d_L_law_797 rfl (lv_at hl 1 rfl) ?_
  refine lv_iload hx hb d_L_law_798 (lv_at hl 5 rfl) ?_
  refine lv_iconst (v := 4) hx hb d_L_law_800 (by decide) ?_
  refine lv_iadd hx hb d_L_law_801 ?_
  refine va_sld hx hb hXs hbl hbA hS hin4 d_L_law_802 ?_
  refine lv_aload_n hx hb d_L_law_803 rfl (lv_at hl 1 rfl) ?_
  refine lv_iload hx hb d_L_law_804 (lv_at hl 5 rfl) ?_
  refine lv_iconst (v := 5) hx hb d_L_law_806 (by decide) ?_
  refine lv_iadd hx hb d_L_law_807 ?_
  refine va_sld hx hb hXs hbl hbA hS hin5 d_L_law_808 ?_
  obtain ⟨q1166, hc, hf⟩ := z_b hf
  have hFc := z_free hD hS hA
  refine va_calli (va_runV (As := [.int (xs (v4 + (1 : Int32)).toNatClampNeg), .int (xs (v4 + (2 : Int32)).toNatClampNeg), .int (xs (v4 + (3 : Int32)).toNatClampNeg), .int (xs (v4 + (4 : Int32)).toNatClampNeg), .int (xs (v4 + (5 : Int32)).toNatClampNeg)]) (rest := []) ⟨hx, hb, hml, hown, hts⟩ (c_M_domain l dC dI cI cL _ (xs (v4 + (1 : Int32)).toNatClampNeg) (xs (v4 + (2 : Int32)).toNatClampNeg) (xs (v4 + (3 : Int32)).toNatClampNeg) (xs (v4 + (4 : Int32)).toNatClampNeg) (xs (v4 + (5 : Int32)).toNatClampNeg) hN_X hN_Xpicture hN_Xhalf hN_Xds q1166 hc) (cw_L_113 hts ⟨Nat.le_of_ble_eq_true rfl, Nat.le_of_ble_eq_true rfl⟩) ⟨zbM, va_recv hK hP (ci := 7) rfl hN_X, (zpM hP hK hZ hD)⟩ rfl rfl hl.1 rfl (lv_room (Nat.le_of_ble_eq_true rfl)) d_L_law_809 ⟨hc1, hc2⟩) hS (fun q _ h => hFc q h) hFc (fun rv ws t H locs ht hvm hu hB hz1 hk1 hS => ?_)
  obtain ⟨hv, hN_X, hN_Xhalf, hN_Xds, hfr⟩ := hu
  subst hv
  obtain ⟨hP, -, hD1⟩ := hB
  rw [ht] at hP
  have hD := hD1.weaken (fun _ _ _ h => hFc _ h)
  have hN_X : zA ws 21 (aX, .inr (7, [.int q1166.2.1, .int X_side, .ref aXpicture, .ref aXhalf, .int X_many, .ref aXblocks, .int X_found, .int X_encodedBits, .ref aXencoded, .int X_fedMany, .ref aXfed, .int X_readAt, .int X_why, .int X_tried, .int X_waiting, .ref aXpile, .int X_decoded, .ref aXnews, .ref aXolds, .ref aXhalves, .ref aXds, .ref aXrs, .ref aXbest, .long X_bestError])) := hN_X
  have hN_Xhalf : zA ws 23 (aXhalf, .inl (cI, Xhalf_n, .inl q1166.2.2.1)) := hN_Xhalf
  have hN_Xds : zA ws 31 (aXds, .inl (cI, Xds_n, .inl q1166.2.2.2)) := hN_Xds
  have hN_O := (hfr _ (by decide)).trans hN_O
  have hN_P := (hfr _ (by decide)).trans hN_P
  have hN_PA := (hfr _ (by decide)).trans hN_PA
  have hN_H := (hfr _ (by decide)).trans hN_H
  have hN_HA := (hfr _ (by decide)).trans hN_HA
  have hN_V := (hfr _ (by decide)).trans hN_V
  have hN_Xpicture := (hfr _ (by decide)).trans hN_Xpicture
  have hN_OUT := (hfr _ (by decide)).trans hN_OUT
  have hw := z_frC (by decide) hw hfr
  refine lv_istore (lv' := [(6, .int q1166.1), (5, .int q1165.1), (0, .ref b), (1, .ref aO), (2, .ref aX), (3, .ref aOUT), (4, .int v4)]) hx hb d_L_law_812 hl (by decide) rfl (fun ls hl => ?_)
  refine lv_aload_n hx hb d_L_law_814 rfl (lv_at hl 4 rfl) ?_
  obtain ⟨q1167, hc, hf⟩ := z_b hf
  refine vp_callSi (z_cr (va_runV (As := []) (rest := []) ⟨hx, hb, hml, hown, hts⟩ (c_M_thrown l dC dI cI cL hN_X q1167 hc) (cw_L_72 hts ⟨Nat.le_of_ble_eq_true rfl, Nat.le_of_ble_eq_true rfl⟩) ⟨zbR, va_recv hK hP (ci := 7) rfl hN_X, (zpR hP hK hZ)⟩ rfl rfl hl.1 rfl (lv_room (Nat.le_of_ble_eq_true rfl)) d_L_law_815 ⟨hc1, hc2⟩)) (fun r1168 hv => ?_)
  have hv := hv.symm
  subst hv
  refine lv_iload hx hb d_L_law_818 (lv_at hl 1 rfl) ?_
  refine lv_icmp_eq (tgt := 825) hx hb d_L_law_820 (by decide) (fun hc => ?_) (fun hc => ?_)
  · have hf := z_t hc hf
    refine lv_iload hx hb d_L_law_825 (lv_at hl 1 rfl) ?_
    refine lv_if_ne (tgt := 842) hx hb d_L_law_827 (by decide) (fun hc => ?_) (fun hc => ?_)
    · have hf := z_f hc hf
      refine lv_goto (tgt := 974) hx hb d_L_law_842 (by decide) ?_
      obtain rfl := Option.some.inj hf
      exact kt _ _ _ ls _ _ (Nat.le_refl _) (Nat.le_refl _) (lv_sub hl [2, 3, 4, 5, 6] rfl) hP hD hS hN_H hN_HA hN_V hN_X hN_Xhalf hN_Xds hN_OUT hw
    · have hf := z_t hc hf
      refine lv_aload_n hx hb d_L_law_830 rfl (lv_at hl 5 rfl) ?_
      refine lv_iconst (v := 0) hx hb d_L_law_831 (by decide) ?_
      obtain ⟨hin, hf⟩ := z_no hf
      refine va_lald hx hb hK hP _ 1 hN_OUT rfl hin d_L_law_832 ?_
      refine lv_iload hx hb d_L_law_833 (lv_at hl 0 rfl) ?_
      refine lv_i2l hx hb d_L_law_835 rfl ?_
      refine W.lcmp hx hb d_L_law_836 ?_
      refine lv_if_eq (tgt := 842) hx hb d_L_law_837 (by decide) (fun hc => ?_) (fun hc => ?_)
      · have hf := z_t hc hf
        refine lv_goto (tgt := 974) hx hb d_L_law_842 (by decide) ?_
        obtain rfl := Option.some.inj hf
        exact kt _ _ _ ls _ _ (Nat.le_refl _) (Nat.le_refl _) (lv_sub hl [2, 3, 4, 5, 6] rfl) hP hD hS hN_H hN_HA hN_V hN_X hN_Xhalf hN_Xds hN_OUT hw
      · have hf := z_f hc hf
        refine lv_iconst (v := 0) hx hb d_L_law_840 (by decide) ?_
        cases hf
  · have hf := z_f hc hf
    refine lv_iconst (v := 0) hx hb d_L_law_823 (by decide) ?_
    cases hf
def f_LW_12 (a1 : Int32) (a2 : Int32) (a3 : Int32) (O_side : Int32) (P_side : Int32) (PA_n : Nat) (PA_f : Nat → Int32) (X_code : Int32) (X_side : Int32) (Xpicture_n : Nat) (Xpicture_f : Nat → Int32) (Xrs_n : Nat) (Xrs_f : Nat → Int32) (OUT_n : Nat) (OUT_f : Nat → Int64) : Option (Int32 × (Nat → Int32) × (Nat → Int64)) := (f_L_kind a1 a2 a3 O_side P_side PA_n PA_f OUT_n OUT_f).bind (fun q1169 => (f_M_kind a1 a2 a3 X_code X_side Xpicture_n Xpicture_f Xrs_n Xrs_f).bind (fun q1170 => (f_M_thrown q1170.2.1).bind (fun q1171 => if q1171 = q1169.1 then (if q1169.1 = 0 then (if (0 : Int32) < 0 ∨ OUT_n ≤ (0 : Int32).toNatClampNeg then none else (if (lg_cmp (q1169.2 (0 : Int32).toNatClampNeg) q1170.1.toInt64) = 0 then (some (q1170.2.1, q1170.2.2, q1169.2)) else (none))) else (some (q1170.2.1, q1170.2.2, q1169.2))) else (none))))
set_option maxHeartbeats 4000000 in
set_option maxRecDepth 100000 in
theorem lc_12 {p : Program} {l : Launch} {e : Env} {s : State} {m : MethodId} {below : List Frame} {meth : Method} {c : Code} {b L : Nat} {xs : Nat → Int32} {dC : Nat → ClassId} {dI : Nat → Nat → Nat} {cI cL : ClassId} {A : Nat → Prop} {Q : State → Prop} {ws0 : va_W} {H : Heap} {locs : List Loc} {cells slots : Nat} {ls : Array Slot} {v4 : Int32} {aO aP aN aH aV aS aK aT aC aI aPA aX aXpicture aXhalf aXblocks aXencoded aXfed aXpile aXnews aXolds aXhalves aXds aXrs aXbest aOUT : Nat} {O_side : Int32} {P_mostSide : Int32} {P_side : Int32} {PA_n : Nat} {PA_f : Nat → Int32} {X_code : Int32} {X_side : Int32} {X_many : Int32} {X_found : Int32} {X_encodedBits : Int32} {X_fedMany : Int32} {X_readAt : Int32} {X_why : Int32} {X_tried : Int32} {X_waiting : Int32} {X_decoded : Int32} {X_bestError : Int64} {Xpicture_n : Nat} {Xpicture_f : Nat → Int32} {Xrs_n : Nat} {Xrs_f : Nat → Int32} {OUT_n : Nat} {OUT_f : Nat → Int64} (fx : lwFix p l s m c b L xs dC dI cI cL A) (hc1 : cells + 1 ≤ room_1.cells) (hc2 : slots + 6 ≤ room_1.slots) (hl : lv_has ls 8 [(0, .ref b), (1, .ref aO), (2, .ref aX), (3, .ref aOUT), (4, .int v4)]) (hP : va_P (dC, dI) classes ws0 H) (hD : va_D A ws0) (hS : va_S A s.heap H locs) (hN_O : zA ws0 0 (aO, .inr (0, [.int O_side, .ref aP, .ref aN, .ref aH, .ref aV, .ref aS, .ref aK, .ref aT, .ref aC, .ref aI]))) (hN_P : zA ws0 1 (aP, .inr (1, [.int P_mostSide, .ref aPA, .int P_side]))) (hN_PA : zA ws0 2 (aPA, .inl (cI, PA_n, .inl PA_f))) (hN_X : zA ws0 21 (aX, .inr (7, [.int X_code, .int X_side, .ref aXpicture, .ref aXhalf, .int X_many, .ref aXblocks, .int X_found, .int X_encodedBits, .ref aXencoded, .int X_fedMany, .ref aXfed, .int X_readAt, .int X_why, .int X_tried, .int X_waiting, .ref aXpile, .int X_decoded, .ref aXnews, .ref aXolds, .ref aXhalves, .ref aXds, .ref aXrs, .ref aXbest, .long X_bestError]))) (hN_Xpicture : zA ws0 22 (aXpicture, .inl (cI, Xpicture_n, .inl Xpicture_f))) (hN_Xrs : zA ws0 32 (aXrs, .inl (cI, Xrs_n, .inl Xrs_f))) (hN_OUT : zA ws0 34 (aOUT, .inl (cL, OUT_n, .inr (.inl OUT_f)))) (hin1 : vp_in (v4 + (1 : Int32)) L) (hin2 : vp_in (v4 + (2 : Int32)) L) (hin3 : vp_in (v4 + (3 : Int32)) L) (r : Int32 × (Nat → Int32) × (Nat → Int64)) (hf : f_LW_12 (xs (v4 + (1 : Int32)).toNatClampNeg) (xs (v4 + (2 : Int32)).toNatClampNeg) (xs (v4 + (3 : Int32)).toNatClampNeg) O_side P_side PA_n PA_f X_code X_side Xpicture_n Xpicture_f Xrs_n Xrs_f OUT_n OUT_f = some r) (kt : ∀ (ws : va_W) (H : Heap) (locs : List Loc) (ls : Array Slot) (ce sl : Nat), ce ≤ cells + 1 → sl ≤ slots + 6 → lv_has ls 8 [(0, .ref b), (1, .ref aO), (2, .ref aX), (3, .ref aOUT), (4, .int v4)] → va_P (dC, dI) classes ws H → va_D A ws → va_S A s.heap H locs → zA ws 21 (aX, .inr (7, [.int r.1, .int X_side, .ref aXpicture, .ref aXhalf, .int X_many, .ref aXblocks, .int X_found, .int X_encodedBits, .ref aXencoded, .int X_fedMany, .ref aXfed, .int X_readAt, .int X_why, .int X_tried, .int X_waiting, .ref aXpile, .int X_decoded, .ref aXnews, .ref aXolds, .ref aXhalves, .ref aXds, .ref aXrs, .ref aXbest, .long X_bestError])) → zA ws 32 (aXrs, .inl (cI, Xrs_n, .inl r.2.1)) → zA ws 34 (aOUT, .inl (cL, OUT_n, .inr (.inl r.2.2))) → (∀ (j : Nat), j ∉ ([21, 32, 34] : List Nat) → ws[j]? = ws0[j]?) → W p l e room_1 s m #[Value.ref b] below meth c H locs ce sl Q (F0 m 974 ls [])) : W p l e room_1 s m #[Value.ref b] below meth c H locs cells slots Q (F0 m 845 ls []) := by
  obtain ⟨hfl, hx, hb, hml, hown, hts, hK, hZ, hX, hXs, hbl, hbA, hA, hA2⟩ := fx
  have hc10 : cells ≤ room_1.cells := Nat.le_of_succ_le hc1
  have hc20 : slots ≤ room_1.slots := Nat.le_trans (Nat.le_add_right _ _) hc2
  have hw : ∀ (j : Nat), j ∉ ([21, 32, 34] : List Nat) → ws0[j]? = ws0[j]? := fun _ _ => rfl
  unfold f_LW_12 at hf
  refine lv_aload_n hx hb d_L_law_845 rfl (lv_at hl 1 rfl) ?_
  refine lv_aload_n hx hb d_L_law_846 rfl (lv_at hl 0 rfl) ?_
  refine lv_iload hx hb d_L_law_847 (lv_at hl 4 rfl) ?_
  refine lv_iconst (v := 1) hx hb d_L_law_849 (by decide) ?_
  refine lv_iadd hx hb d_L_law_850 ?_
  refine va_sld hx hb hXs hbl hbA hS hin1 d_L_law_851 ?_
  refine lv_aload_n hx hb d_L_law_852 rfl (lv_at hl 0 rfl) ?_
  refine lv_iload hx hb d_L_law_853 (lv_at hl 4 rfl) ?_
  refine lv_iconst (v := 2) hx hb d_L_law_855 (by decide) ?_
  refine lv_iadd hx hb d_L_law_856 ?_
  refine va_sld hx hb hXs hbl hbA hS hin2 d_L_law_857 ?_
  refine lv_aload_n hx hb d_L_law_858 rfl (lv_at hl 0 rfl) ?_
  refine lv_iload hx hb d_L_law_859 (lv_at hl 4 rfl) ?_
  refine lv_iconst (v := 3) hx hb d_L_law_861 (by decide) ?_
  refine lv_iadd hx hb d_L_law_862 ?_
  refine va_sld hx hb hXs hbl hbA hS hin3 d_L_law_863 ?_
  refine lv_aload_n hx hb d_L_law_864 rfl (lv_at hl 3 rfl) ?_
  obtain ⟨q1169, hc, hf⟩ := z_b hf
  have hFc := z_free hD hS hA
  refine va_calli (z_runSW (As := [.ref aO, .int (xs (v4 + (1 : Int32)).toNatClampNeg), .int (xs (v4 + (2 : Int32)).toNatClampNeg), .int (xs (v4 + (3 : Int32)).toNatClampNeg), .ref aOUT]) (rest := []) ⟨hx, hb, hml, hown, hts⟩ (c_L_kind l hfl dC dI cI cL _ (xs (v4 + (1 : Int32)).toNatClampNeg) (xs (v4 + (2 : Int32)).toNatClampNeg) (xs (v4 + (3 : Int32)).toNatClampNeg) hN_O hN_P hN_PA hN_OUT q1169 hc) (cw_L_114 hts ⟨Nat.le_of_ble_eq_true rfl, Nat.le_of_ble_eq_true rfl⟩) ⟨zbT, zpT hP hK hZ hD hX (z_keep hA2 hS)⟩ rfl rfl hl.1 rfl (lv_room (Nat.le_of_ble_eq_true rfl)) d_L_law_865 ⟨hc1, hc2⟩) hS (fun q _ h => hFc q h) hFc (fun rv ws t H locs ht hvm hu hB hz1 hk1 hS => ?_)
  obtain ⟨hv, hN_OUT, hfr⟩ := hu
  have hv := hv.symm
  subst hv
  obtain ⟨hP, -, hD1⟩ := hB
  rw [ht] at hP
  have hD := hD1.weaken (fun _ _ _ h => hFc _ h)
  have hN_OUT : zA ws 34 (aOUT, .inl (cL, OUT_n, .inr (.inl q1169.2))) := hN_OUT
  have hN_O := (hfr _ (by decide)).trans hN_O
  have hN_P := (hfr _ (by decide)).trans hN_P
  have hN_PA := (hfr _ (by decide)).trans hN_PA
  have hN_X := (hfr _ (by decide)).trans hN_X
  have hN_Xpicture := (hfr _ (by decide)).trans hN_Xpicture
  have hN_Xrs := (hfr _ (by decide)).trans hN_Xrs
  have hw := z_frC (by decide) hw hfr
  refine lv_istore (lv' := [(5, .int q1169.1), (0, .ref b), (1, .ref aO), (2, .ref aX), (3, .ref aOUT), (4, .int v4)]) hx hb d_L_law_868 hl (by decide) rfl (fun ls hl => ?_)
  refine lv_aload_n hx hb d_L_law_870 rfl (lv_at hl 3 rfl) ?_
  refine lv_aload_n hx hb d_L_law_871 rfl (lv_at hl 1 rfl) ?_
  refine lv_iload hx hb d_L_law_872 (lv_at hl 5 rfl) ?_
  refine lv_iconst (v := 1) hx hb d_L_law_874 (by decide) ?_
  refine lv_iadd hx hb d_L_law_875 ?_
  refine va_sld hx hb hXs hbl hbA hS hin1 d_L_law_876 ?_
  refine lv_aload_n hx hb d_L_law_877 rfl (lv_at hl 1 rfl) ?_
  refine lv_iload hx hb d_L_law_878 (lv_at hl 5 rfl) ?_
  refine lv_iconst (v := 2) hx hb d_L_law_880 (by decide) ?_
  refine lv_iadd hx hb d_L_law_881 ?_
  refine va_sld hx hb hXs hbl hbA hS hin2 d_L_law_882 ?_
  refine lv_aload_n hx hb d_L_law_883 rfl (lv_at hl 1 rfl) ?_
  refine lv_iload hx hb d_L_law_884 (lv_at hl 5 rfl) ?_
  refine lv_iconst (v := 3) hx hb d_L_law_886 (by decide) ?_
  refine lv_iadd hx hb d_L_law_887 ?_
  refine va_sld hx hb hXs hbl hbA hS hin3 d_L_law_888 ?_
  obtain ⟨q1170, hc, hf⟩ := z_b hf
  have hFc := z_free hD hS hA
  refine va_calli (va_runV (As := [.int (xs (v4 + (1 : Int32)).toNatClampNeg), .int (xs (v4 + (2 : Int32)).toNatClampNeg), .int (xs (v4 + (3 : Int32)).toNatClampNeg)]) (rest := []) ⟨hx, hb, hml, hown, hts⟩ (c_M_kind l dC dI cI cL _ (xs (v4 + (1 : Int32)).toNatClampNeg) (xs (v4 + (2 : Int32)).toNatClampNeg) (xs (v4 + (3 : Int32)).toNatClampNeg) hN_X hN_Xpicture hN_Xrs q1170 hc) (cw_L_116 hts ⟨Nat.le_of_ble_eq_true rfl, Nat.le_of_ble_eq_true rfl⟩) ⟨zbM, va_recv hK hP (ci := 7) rfl hN_X, (zpM hP hK hZ hD)⟩ rfl rfl hl.1 rfl (lv_room (Nat.le_of_ble_eq_true rfl)) d_L_law_889 ⟨hc1, hc2⟩) hS (fun q _ h => hFc q h) hFc (fun rv ws t H locs ht hvm hu hB hz1 hk1 hS => ?_)
  obtain ⟨hv, hN_X, hN_Xrs, hfr⟩ := hu
  subst hv
  obtain ⟨hP, -, hD1⟩ := hB
  rw [ht] at hP
  have hD := hD1.weaken (fun _ _ _ h => hFc _ h)
  have hN_X : zA ws 21 (aX, .inr (7, [.int q1170.2.1, .int X_side, .ref aXpicture, .ref aXhalf, .int X_many, .ref aXblocks, .int X_found, .int X_encodedBits, .ref aXencoded, .int X_fedMany, .ref aXfed, .int X_readAt, .int X_why, .int X_tried, .int X_waiting, .ref aXpile, .int X_decoded, .ref aXnews, .ref aXolds, .ref aXhalves, .ref aXds, .ref aXrs, .ref aXbest, .long X_bestError])) := hN_X
  have hN_Xrs : zA ws 32 (aXrs, .inl (cI, Xrs_n, .inl q1170.2.2)) := hN_Xrs
  have hN_O := (hfr _ (by decide)).trans hN_O
  have hN_P := (hfr _ (by decide)).trans hN_P
  have hN_PA := (hfr _ (by decide)).trans hN_PA
  have hN_Xpicture := (hfr _ (by decide)).trans hN_Xpicture
  have hN_OUT := (hfr _ (by decide)).trans hN_OUT
  have hw := z_frC (by decide) hw hfr
  refine lv_istore (lv' := [(6, .int q1170.1), (5, .int q1169.1), (0, .ref b), (1, .ref aO), (2, .ref aX), (3, .ref aOUT), (4, .int v4)]) hx hb d_L_law_892 hl (by decide) rfl (fun ls hl => ?_)
  refine lv_aload_n hx hb d_L_law_894 rfl (lv_at hl 4 rfl) ?_
  obtain ⟨q1171, hc, hf⟩ := z_b hf
  refine vp_callSi (z_cr (va_runV (As := []) (rest := []) ⟨hx, hb, hml, hown, hts⟩ (c_M_thrown l dC dI cI cL hN_X q1171 hc) (cw_L_72 hts ⟨Nat.le_of_ble_eq_true rfl, Nat.le_of_ble_eq_true rfl⟩) ⟨zbR, va_recv hK hP (ci := 7) rfl hN_X, (zpR hP hK hZ)⟩ rfl rfl hl.1 rfl (lv_room (Nat.le_of_ble_eq_true rfl)) d_L_law_895 ⟨hc1, hc2⟩)) (fun r1172 hv => ?_)
  have hv := hv.symm
  subst hv
  refine lv_iload hx hb d_L_law_898 (lv_at hl 1 rfl) ?_
  refine lv_icmp_eq (tgt := 905) hx hb d_L_law_900 (by decide) (fun hc => ?_) (fun hc => ?_)
  · have hf := z_t hc hf
    refine lv_iload hx hb d_L_law_905 (lv_at hl 1 rfl) ?_
    refine lv_if_ne (tgt := 922) hx hb d_L_law_907 (by decide) (fun hc => ?_) (fun hc => ?_)
    · have hf := z_f hc hf
      refine lv_goto (tgt := 974) hx hb d_L_law_922 (by decide) ?_
      obtain rfl := Option.some.inj hf
      exact kt _ _ _ ls _ _ (Nat.le_refl _) (Nat.le_refl _) (lv_sub hl [2, 3, 4, 5, 6] rfl) hP hD hS hN_X hN_Xrs hN_OUT hw
    · have hf := z_t hc hf
      refine lv_aload_n hx hb d_L_law_910 rfl (lv_at hl 5 rfl) ?_
      refine lv_iconst (v := 0) hx hb d_L_law_911 (by decide) ?_
      obtain ⟨hin, hf⟩ := z_no hf
      refine va_lald hx hb hK hP _ 1 hN_OUT rfl hin d_L_law_912 ?_
      refine lv_iload hx hb d_L_law_913 (lv_at hl 0 rfl) ?_
      refine lv_i2l hx hb d_L_law_915 rfl ?_
      refine W.lcmp hx hb d_L_law_916 ?_
      refine lv_if_eq (tgt := 922) hx hb d_L_law_917 (by decide) (fun hc => ?_) (fun hc => ?_)
      · have hf := z_t hc hf
        refine lv_goto (tgt := 974) hx hb d_L_law_922 (by decide) ?_
        obtain rfl := Option.some.inj hf
        exact kt _ _ _ ls _ _ (Nat.le_refl _) (Nat.le_refl _) (lv_sub hl [2, 3, 4, 5, 6] rfl) hP hD hS hN_X hN_Xrs hN_OUT hw
      · have hf := z_f hc hf
        refine lv_iconst (v := 0) hx hb d_L_law_920 (by decide) ?_
        cases hf
  · have hf := z_f hc hf
    refine lv_iconst (v := 0) hx hb d_L_law_903 (by decide) ?_
    cases hf
def f_LW_13 (S_tried : Int32) (X_code : Int32) (X_tried : Int32) : Option (Int32) := (f_F_tried S_tried).bind (fun q1173 => (f_M_tried X_tried).bind (fun q1175 => if q1173 = q1175.1 then (some q1175.2) else (none)))
set_option maxHeartbeats 4000000 in
set_option maxRecDepth 100000 in
theorem lc_13 {p : Program} {l : Launch} {e : Env} {s : State} {m : MethodId} {below : List Frame} {meth : Method} {c : Code} {b L : Nat} {xs : Nat → Int32} {dC : Nat → ClassId} {dI : Nat → Nat → Nat} {cI cL : ClassId} {A : Nat → Prop} {Q : State → Prop} {ws0 : va_W} {H : Heap} {locs : List Loc} {cells slots : Nat} {ls : Array Slot} {v4 : Int32} {aO aP aN aH aV aS aK aT aC aI aW aD aQ aR aE aX aXpicture aXhalf aXblocks aXencoded aXfed aXpile aXnews aXolds aXhalves aXds aXrs aXbest aOUT : Nat} {O_side : Int32} {S_tried : Int32} {S_size : Int32} {S_count : Int32} {S_wantedSum : Int32} {S_foundSum : Int32} {S_foundSquares : Int32} {X_code : Int32} {X_side : Int32} {X_many : Int32} {X_found : Int32} {X_encodedBits : Int32} {X_fedMany : Int32} {X_readAt : Int32} {X_why : Int32} {X_tried : Int32} {X_waiting : Int32} {X_decoded : Int32} {X_bestError : Int64} (fx : lwFix p l s m c b L xs dC dI cI cL A) (hc1 : cells + 1 ≤ room_1.cells) (hc2 : slots + 6 ≤ room_1.slots) (hl : lv_has ls 8 [(0, .ref b), (1, .ref aO), (2, .ref aX), (3, .ref aOUT), (4, .int v4)]) (hP : va_P (dC, dI) classes ws0 H) (hD : va_D A ws0) (hS : va_S A s.heap H locs) (hN_O : zA ws0 0 (aO, .inr (0, [.int O_side, .ref aP, .ref aN, .ref aH, .ref aV, .ref aS, .ref aK, .ref aT, .ref aC, .ref aI]))) (hN_S : zA ws0 8 (aS, .inr (3, [.ref aP, .ref aH, .ref aV, .ref aW, .ref aD, .ref aQ, .ref aR, .ref aE, .int S_tried, .int S_size, .int S_count, .int S_wantedSum, .int S_foundSum, .int S_foundSquares]))) (hN_X : zA ws0 21 (aX, .inr (7, [.int X_code, .int X_side, .ref aXpicture, .ref aXhalf, .int X_many, .ref aXblocks, .int X_found, .int X_encodedBits, .ref aXencoded, .int X_fedMany, .ref aXfed, .int X_readAt, .int X_why, .int X_tried, .int X_waiting, .ref aXpile, .int X_decoded, .ref aXnews, .ref aXolds, .ref aXhalves, .ref aXds, .ref aXrs, .ref aXbest, .long X_bestError]))) (r : Int32) (hf : f_LW_13 S_tried X_code X_tried = some r) (kt : ∀ (ws : va_W) (H : Heap) (locs : List Loc) (ls : Array Slot) (ce sl : Nat), ce ≤ cells + 1 → sl ≤ slots + 6 → lv_has ls 8 [(0, .ref b), (1, .ref aO), (2, .ref aX), (3, .ref aOUT), (4, .int v4)] → va_P (dC, dI) classes ws H → va_D A ws → va_S A s.heap H locs → zA ws 21 (aX, .inr (7, [.int r, .int X_side, .ref aXpicture, .ref aXhalf, .int X_many, .ref aXblocks, .int X_found, .int X_encodedBits, .ref aXencoded, .int X_fedMany, .ref aXfed, .int X_readAt, .int X_why, .int X_tried, .int X_waiting, .ref aXpile, .int X_decoded, .ref aXnews, .ref aXolds, .ref aXhalves, .ref aXds, .ref aXrs, .ref aXbest, .long X_bestError])) → (∀ (j : Nat), j ∉ ([21] : List Nat) → ws[j]? = ws0[j]?) → W p l e room_1 s m #[Value.ref b] below meth c H locs ce sl Q (F0 m 974 ls [])) : W p l e room_1 s m #[Value.ref b] below meth c H locs cells slots Q (F0 m 925 ls []) := by
  obtain ⟨hfl, hx, hb, hml, hown, hts, hK, hZ, hX, hXs, hbl, hbA, hA, hA2⟩ := fx
  have hc10 : cells ≤ room_1.cells := Nat.le_of_succ_le hc1
  have hc20 : slots ≤ room_1.slots := Nat.le_trans (Nat.le_add_right _ _) hc2
  have hw : ∀ (j : Nat), j ∉ ([21] : List Nat) → ws0[j]? = ws0[j]? := fun _ _ => rfl
  unfold f_LW_13 at hf
  refine lv_aload_n hx hb d_L_law_925 rfl (lv_at hl 1 rfl) ?_
  obtain ⟨q1173, hc, hf⟩ := z_b hf
  refine vp_callSi (z_cr (va_runV (As := []) (rest := []) ⟨hx, hb, hml, hown, hts⟩ (c_F_tried l dC dI cI cL hN_O hN_S q1173 hc) (cw_L_117 hts ⟨Nat.le_of_ble_eq_true rfl, Nat.le_of_ble_eq_true rfl⟩) ⟨zbR, va_recv hK hP (ci := 0) rfl hN_O, (zpR hP hK hZ)⟩ rfl rfl hl.1 rfl (lv_room (Nat.le_of_ble_eq_true rfl)) d_L_law_926 ⟨hc10, hc20⟩)) (fun r1174 hv => ?_)
  have hv := hv.symm
  subst hv
  refine lv_aload_n hx hb d_L_law_929 rfl (lv_at hl 2 rfl) ?_
  obtain ⟨q1175, hc, hf⟩ := z_b hf
  have hFc := z_free hD hS hA
  refine va_calli (va_runV (As := []) (rest := [.int q1173]) ⟨hx, hb, hml, hown, hts⟩ (c_M_tried l dC dI cI cL _ hN_X q1175 hc) (cw_L_120 hts ⟨Nat.le_of_ble_eq_true rfl, Nat.le_of_ble_eq_true rfl⟩) ⟨zbM, va_recv hK hP (ci := 7) rfl hN_X, (zpM hP hK hZ hD)⟩ rfl rfl hl.1 rfl (lv_room (Nat.le_of_ble_eq_true rfl)) d_L_law_930 ⟨hc10, hc20⟩) hS (fun q _ h => hFc q h) hFc (fun rv ws t H locs ht hvm hu hB hz1 hk1 hS => ?_)
  obtain ⟨hv, hN_X, hfr⟩ := hu
  subst hv
  obtain ⟨hP, -, hD1⟩ := hB
  rw [ht] at hP
  have hD := hD1.weaken (fun _ _ _ h => hFc _ h)
  have hN_X : zA ws 21 (aX, .inr (7, [.int q1175.2, .int X_side, .ref aXpicture, .ref aXhalf, .int X_many, .ref aXblocks, .int X_found, .int X_encodedBits, .ref aXencoded, .int X_fedMany, .ref aXfed, .int X_readAt, .int X_why, .int X_tried, .int X_waiting, .ref aXpile, .int X_decoded, .ref aXnews, .ref aXolds, .ref aXhalves, .ref aXds, .ref aXrs, .ref aXbest, .long X_bestError])) := hN_X
  have hN_O := (hfr _ (by decide)).trans hN_O
  have hN_S := (hfr _ (by decide)).trans hN_S
  have hw := z_frC (by decide) hw hfr
  refine lv_icmp_eq (tgt := 974) hx hb d_L_law_933 (by decide) (fun hc => ?_) (fun hc => ?_)
  · have hf := z_t hc hf
    obtain rfl := Option.some.inj hf
    exact kt _ _ _ ls _ _ (Nat.le_succ _) (Nat.le_add_right _ _) (lv_sub hl [0, 1, 2, 3, 4] rfl) hP hD hS hN_X hw
  · have hf := z_f hc hf
    refine lv_iconst (v := 0) hx hb d_L_law_936 (by decide) ?_
    cases hf
def f_LW_14 (a1 : Int32) (O_side : Int32) (N_side : Int32) (K_count : Int32) (C_filled : Int32) (I_filled : Int32) (X_code : Int32) (X_side : Int32) (X_many : Int32) (X_encodedBits : Int32) (X_fedMany : Int32) (X_decoded : Int32) : Option (Int32) := (f_F_told a1 O_side N_side K_count C_filled I_filled).bind (fun q1176 => (f_M_told a1 X_side X_many X_encodedBits X_fedMany X_decoded).bind (fun q1178 => if q1176 = q1178.1 then (some q1178.2) else (none)))
set_option maxHeartbeats 4000000 in
set_option maxRecDepth 100000 in
theorem lc_14 {p : Program} {l : Launch} {e : Env} {s : State} {m : MethodId} {below : List Frame} {meth : Method} {c : Code} {b L : Nat} {xs : Nat → Int32} {dC : Nat → ClassId} {dI : Nat → Nat → Nat} {cI cL : ClassId} {A : Nat → Prop} {Q : State → Prop} {ws0 : va_W} {H : Heap} {locs : List Loc} {cells slots : Nat} {ls : Array Slot} {v4 : Int32} {aO aP aN aH aV aS aK aT aC aI aNA aKA aCA aIA aX aXpicture aXhalf aXblocks aXencoded aXfed aXpile aXnews aXolds aXhalves aXds aXrs aXbest aOUT : Nat} {O_side : Int32} {N_mostSide : Int32} {N_side : Int32} {K_count : Int32} {C_filled : Int32} {C_taken : Int32} {I_filled : Int32} {I_taken : Int32} {X_code : Int32} {X_side : Int32} {X_many : Int32} {X_found : Int32} {X_encodedBits : Int32} {X_fedMany : Int32} {X_readAt : Int32} {X_why : Int32} {X_tried : Int32} {X_waiting : Int32} {X_decoded : Int32} {X_bestError : Int64} (fx : lwFix p l s m c b L xs dC dI cI cL A) (hc1 : cells + 1 ≤ room_1.cells) (hc2 : slots + 6 ≤ room_1.slots) (hl : lv_has ls 8 [(0, .ref b), (1, .ref aO), (2, .ref aX), (3, .ref aOUT), (4, .int v4)]) (hP : va_P (dC, dI) classes ws0 H) (hD : va_D A ws0) (hS : va_S A s.heap H locs) (hN_O : zA ws0 0 (aO, .inr (0, [.int O_side, .ref aP, .ref aN, .ref aH, .ref aV, .ref aS, .ref aK, .ref aT, .ref aC, .ref aI]))) (hN_N : zA ws0 3 (aN, .inr (1, [.int N_mostSide, .ref aNA, .int N_side]))) (hN_K : zA ws0 14 (aK, .inr (5, [.ref aKA, .int K_count]))) (hN_C : zA ws0 17 (aC, .inr (6, [.ref aCA, .int C_filled, .int C_taken]))) (hN_I : zA ws0 19 (aI, .inr (6, [.ref aIA, .int I_filled, .int I_taken]))) (hN_X : zA ws0 21 (aX, .inr (7, [.int X_code, .int X_side, .ref aXpicture, .ref aXhalf, .int X_many, .ref aXblocks, .int X_found, .int X_encodedBits, .ref aXencoded, .int X_fedMany, .ref aXfed, .int X_readAt, .int X_why, .int X_tried, .int X_waiting, .ref aXpile, .int X_decoded, .ref aXnews, .ref aXolds, .ref aXhalves, .ref aXds, .ref aXrs, .ref aXbest, .long X_bestError]))) (hin1 : vp_in (v4 + (1 : Int32)) L) (r : Int32) (hf : f_LW_14 (xs (v4 + (1 : Int32)).toNatClampNeg) O_side N_side K_count C_filled I_filled X_code X_side X_many X_encodedBits X_fedMany X_decoded = some r) (kt : ∀ (ws : va_W) (H : Heap) (locs : List Loc) (ls : Array Slot) (ce sl : Nat), ce ≤ cells + 1 → sl ≤ slots + 6 → lv_has ls 8 [(0, .ref b), (1, .ref aO), (2, .ref aX), (3, .ref aOUT), (4, .int v4)] → va_P (dC, dI) classes ws H → va_D A ws → va_S A s.heap H locs → zA ws 21 (aX, .inr (7, [.int r, .int X_side, .ref aXpicture, .ref aXhalf, .int X_many, .ref aXblocks, .int X_found, .int X_encodedBits, .ref aXencoded, .int X_fedMany, .ref aXfed, .int X_readAt, .int X_why, .int X_tried, .int X_waiting, .ref aXpile, .int X_decoded, .ref aXnews, .ref aXolds, .ref aXhalves, .ref aXds, .ref aXrs, .ref aXbest, .long X_bestError])) → (∀ (j : Nat), j ∉ ([21] : List Nat) → ws[j]? = ws0[j]?) → W p l e room_1 s m #[Value.ref b] below meth c H locs ce sl Q (F0 m 974 ls [])) : W p l e room_1 s m #[Value.ref b] below meth c H locs cells slots Q (F0 m 938 ls []) := by
  obtain ⟨hfl, hx, hb, hml, hown, hts, hK, hZ, hX, hXs, hbl, hbA, hA, hA2⟩ := fx
  have hc10 : cells ≤ room_1.cells := Nat.le_of_succ_le hc1
  have hc20 : slots ≤ room_1.slots := Nat.le_trans (Nat.le_add_right _ _) hc2
  have hw : ∀ (j : Nat), j ∉ ([21] : List Nat) → ws0[j]? = ws0[j]? := fun _ _ => rfl
  unfold f_LW_14 at hf
  refine lv_aload_n hx hb d_L_law_938 rfl (lv_at hl 1 rfl) ?_
  refine lv_aload_n hx hb d_L_law_939 rfl (lv_at hl 0 rfl) ?_
  refine lv_iload hx hb d_L_law_940 (lv_at hl 4 rfl) ?_
  refine lv_iconst (v := 1) hx hb d_L_law_942 (by decide) ?_
  refine lv_iadd hx hb d_L_law_943 ?_
  refine va_sld hx hb hXs hbl hbA hS hin1 d_L_law_944 ?_
  obtain ⟨q1176, hc, hf⟩ := z_b hf
  refine vp_callSi (z_cr (va_runV (As := [.int (xs (v4 + (1 : Int32)).toNatClampNeg)]) (rest := []) ⟨hx, hb, hml, hown, hts⟩ (c_F_told l dC dI cI cL (xs (v4 + (1 : Int32)).toNatClampNeg) hN_O hN_N hN_K hN_C hN_I q1176 hc) (cw_L_121 hts ⟨Nat.le_of_ble_eq_true rfl, Nat.le_of_ble_eq_true rfl⟩) ⟨zbR, va_recv hK hP (ci := 0) rfl hN_O, (zpR hP hK hZ)⟩ rfl rfl hl.1 rfl (lv_room (Nat.le_of_ble_eq_true rfl)) d_L_law_945 ⟨hc10, hc20⟩)) (fun r1177 hv => ?_)
  have hv := hv.symm
  subst hv
  refine lv_aload_n hx hb d_L_law_948 rfl (lv_at hl 2 rfl) ?_
  refine lv_aload_n hx hb d_L_law_949 rfl (lv_at hl 0 rfl) ?_
  refine lv_iload hx hb d_L_law_950 (lv_at hl 4 rfl) ?_
  refine lv_iconst (v := 1) hx hb d_L_law_952 (by decide) ?_
  refine lv_iadd hx hb d_L_law_953 ?_
  refine va_sld hx hb hXs hbl hbA hS hin1 d_L_law_954 ?_
  obtain ⟨q1178, hc, hf⟩ := z_b hf
  have hFc := z_free hD hS hA
  refine va_calli (va_runV (As := [.int (xs (v4 + (1 : Int32)).toNatClampNeg)]) (rest := [.int q1176]) ⟨hx, hb, hml, hown, hts⟩ (c_M_told l dC dI cI cL _ (xs (v4 + (1 : Int32)).toNatClampNeg) hN_X q1178 hc) (cw_L_124 hts ⟨Nat.le_of_ble_eq_true rfl, Nat.le_of_ble_eq_true rfl⟩) ⟨zbM, va_recv hK hP (ci := 7) rfl hN_X, (zpM hP hK hZ hD)⟩ rfl rfl hl.1 rfl (lv_room (Nat.le_of_ble_eq_true rfl)) d_L_law_955 ⟨hc10, hc20⟩) hS (fun q _ h => hFc q h) hFc (fun rv ws t H locs ht hvm hu hB hz1 hk1 hS => ?_)
  obtain ⟨hv, hN_X, hfr⟩ := hu
  subst hv
  obtain ⟨hP, -, hD1⟩ := hB
  rw [ht] at hP
  have hD := hD1.weaken (fun _ _ _ h => hFc _ h)
  have hN_X : zA ws 21 (aX, .inr (7, [.int q1178.2, .int X_side, .ref aXpicture, .ref aXhalf, .int X_many, .ref aXblocks, .int X_found, .int X_encodedBits, .ref aXencoded, .int X_fedMany, .ref aXfed, .int X_readAt, .int X_why, .int X_tried, .int X_waiting, .ref aXpile, .int X_decoded, .ref aXnews, .ref aXolds, .ref aXhalves, .ref aXds, .ref aXrs, .ref aXbest, .long X_bestError])) := hN_X
  have hN_O := (hfr _ (by decide)).trans hN_O
  have hN_N := (hfr _ (by decide)).trans hN_N
  have hN_K := (hfr _ (by decide)).trans hN_K
  have hN_C := (hfr _ (by decide)).trans hN_C
  have hN_I := (hfr _ (by decide)).trans hN_I
  have hw := z_frC (by decide) hw hfr
  refine lv_icmp_eq (tgt := 974) hx hb d_L_law_958 (by decide) (fun hc => ?_) (fun hc => ?_)
  · have hf := z_t hc hf
    obtain rfl := Option.some.inj hf
    exact kt _ _ _ ls _ _ (Nat.le_succ _) (Nat.le_add_right _ _) (lv_sub hl [0, 1, 2, 3, 4] rfl) hP hD hS hN_X hw
  · have hf := z_f hc hf
    refine lv_iconst (v := 0) hx hb d_L_law_961 (by decide) ?_
    cases hf
def f_LW_15 (O_side : Int32) (P_mostSide : Int32) (P_side : Int32) (PA_n : Nat) (PA_f : Nat → Int32) (N_mostSide : Int32) (N_side : Int32) (NA_n : Nat) (NA_f : Nat → Int32) (S_tried : Int32) (K_count : Int32) (C_filled : Int32) (C_taken : Int32) (I_filled : Int32) (I_taken : Int32) (X_code : Int32) (X_many : Int32) (X_encodedBits : Int32) (X_fedMany : Int32) (X_tried : Int32) (X_decoded : Int32) (Xpicture_n : Nat) (Xpicture_f : Nat → Int32) : Option (Int32 × (Nat → Int32) × Int32 × (Nat → Int32) × Int32 × Int32 × Int32 × Int32 × Int32 × Int32 × Int32 × Int32 × Int32 × Int32 × Int32 × Int32 × (Nat → Int32)) := (f_F_clear O_side P_mostSide PA_n PA_f N_mostSide NA_n NA_f).bind (fun q1179 => (f_M_clear Xpicture_n Xpicture_f).bind (fun q1180 => some (q1179.1, q1179.2.1, q1179.2.2.1, q1179.2.2.2.1, q1179.2.2.2.2.1, q1179.2.2.2.2.2.1, q1179.2.2.2.2.2.2.1, q1179.2.2.2.2.2.2.2.1, q1179.2.2.2.2.2.2.2.2.1, q1179.2.2.2.2.2.2.2.2.2, q1180.1, q1180.2.1, q1180.2.2.1, q1180.2.2.2.1, q1180.2.2.2.2.1, q1180.2.2.2.2.2.1, q1180.2.2.2.2.2.2)))
set_option maxHeartbeats 4000000 in
set_option maxRecDepth 100000 in
theorem lc_15 {p : Program} {l : Launch} {e : Env} {s : State} {m : MethodId} {below : List Frame} {meth : Method} {c : Code} {b L : Nat} {xs : Nat → Int32} {dC : Nat → ClassId} {dI : Nat → Nat → Nat} {cI cL : ClassId} {A : Nat → Prop} {Q : State → Prop} {ws0 : va_W} {H : Heap} {locs : List Loc} {cells slots : Nat} {ls : Array Slot} {v4 : Int32} {aO aP aN aH aV aS aK aT aC aI aPA aNA aW aD aQ aR aE aKA aCA aIA aX aXpicture aXhalf aXblocks aXencoded aXfed aXpile aXnews aXolds aXhalves aXds aXrs aXbest aOUT : Nat} {O_side : Int32} {P_mostSide : Int32} {P_side : Int32} {PA_n : Nat} {PA_f : Nat → Int32} {N_mostSide : Int32} {N_side : Int32} {NA_n : Nat} {NA_f : Nat → Int32} {S_tried : Int32} {S_size : Int32} {S_count : Int32} {S_wantedSum : Int32} {S_foundSum : Int32} {S_foundSquares : Int32} {K_count : Int32} {C_filled : Int32} {C_taken : Int32} {I_filled : Int32} {I_taken : Int32} {X_code : Int32} {X_side : Int32} {X_many : Int32} {X_found : Int32} {X_encodedBits : Int32} {X_fedMany : Int32} {X_readAt : Int32} {X_why : Int32} {X_tried : Int32} {X_waiting : Int32} {X_decoded : Int32} {X_bestError : Int64} {Xpicture_n : Nat} {Xpicture_f : Nat → Int32} (fx : lwFix p l s m c b L xs dC dI cI cL A) (hc1 : cells + 1 ≤ room_1.cells) (hc2 : slots + 6 ≤ room_1.slots) (hl : lv_has ls 8 [(0, .ref b), (1, .ref aO), (2, .ref aX), (3, .ref aOUT), (4, .int v4)]) (hP : va_P (dC, dI) classes ws0 H) (hD : va_D A ws0) (hS : va_S A s.heap H locs) (hN_O : zA ws0 0 (aO, .inr (0, [.int O_side, .ref aP, .ref aN, .ref aH, .ref aV, .ref aS, .ref aK, .ref aT, .ref aC, .ref aI]))) (hN_P : zA ws0 1 (aP, .inr (1, [.int P_mostSide, .ref aPA, .int P_side]))) (hN_PA : zA ws0 2 (aPA, .inl (cI, PA_n, .inl PA_f))) (hN_N : zA ws0 3 (aN, .inr (1, [.int N_mostSide, .ref aNA, .int N_side]))) (hN_NA : zA ws0 4 (aNA, .inl (cI, NA_n, .inl NA_f))) (hN_S : zA ws0 8 (aS, .inr (3, [.ref aP, .ref aH, .ref aV, .ref aW, .ref aD, .ref aQ, .ref aR, .ref aE, .int S_tried, .int S_size, .int S_count, .int S_wantedSum, .int S_foundSum, .int S_foundSquares]))) (hN_K : zA ws0 14 (aK, .inr (5, [.ref aKA, .int K_count]))) (hN_C : zA ws0 17 (aC, .inr (6, [.ref aCA, .int C_filled, .int C_taken]))) (hN_I : zA ws0 19 (aI, .inr (6, [.ref aIA, .int I_filled, .int I_taken]))) (hN_X : zA ws0 21 (aX, .inr (7, [.int X_code, .int X_side, .ref aXpicture, .ref aXhalf, .int X_many, .ref aXblocks, .int X_found, .int X_encodedBits, .ref aXencoded, .int X_fedMany, .ref aXfed, .int X_readAt, .int X_why, .int X_tried, .int X_waiting, .ref aXpile, .int X_decoded, .ref aXnews, .ref aXolds, .ref aXhalves, .ref aXds, .ref aXrs, .ref aXbest, .long X_bestError]))) (hN_Xpicture : zA ws0 22 (aXpicture, .inl (cI, Xpicture_n, .inl Xpicture_f))) (r : Int32 × (Nat → Int32) × Int32 × (Nat → Int32) × Int32 × Int32 × Int32 × Int32 × Int32 × Int32 × Int32 × Int32 × Int32 × Int32 × Int32 × Int32 × (Nat → Int32)) (hf : f_LW_15 O_side P_mostSide P_side PA_n PA_f N_mostSide N_side NA_n NA_f S_tried K_count C_filled C_taken I_filled I_taken X_code X_many X_encodedBits X_fedMany X_tried X_decoded Xpicture_n Xpicture_f = some r) (kt : ∀ (ws : va_W) (H : Heap) (locs : List Loc) (ls : Array Slot) (ce sl : Nat), ce ≤ cells + 1 → sl ≤ slots + 6 → lv_has ls 8 [(0, .ref b), (1, .ref aO), (2, .ref aX), (3, .ref aOUT), (4, .int v4)] → va_P (dC, dI) classes ws H → va_D A ws → va_S A s.heap H locs → zA ws 1 (aP, .inr (1, [.int P_mostSide, .ref aPA, .int r.1])) → zA ws 2 (aPA, .inl (cI, PA_n, .inl r.2.1)) → zA ws 3 (aN, .inr (1, [.int N_mostSide, .ref aNA, .int r.2.2.1])) → zA ws 4 (aNA, .inl (cI, NA_n, .inl r.2.2.2.1)) → zA ws 8 (aS, .inr (3, [.ref aP, .ref aH, .ref aV, .ref aW, .ref aD, .ref aQ, .ref aR, .ref aE, .int r.2.2.2.2.1, .int S_size, .int S_count, .int S_wantedSum, .int S_foundSum, .int S_foundSquares])) → zA ws 14 (aK, .inr (5, [.ref aKA, .int r.2.2.2.2.2.1])) → zA ws 17 (aC, .inr (6, [.ref aCA, .int r.2.2.2.2.2.2.1, .int r.2.2.2.2.2.2.2.1])) → zA ws 19 (aI, .inr (6, [.ref aIA, .int r.2.2.2.2.2.2.2.2.1, .int r.2.2.2.2.2.2.2.2.2.1])) → zA ws 21 (aX, .inr (7, [.int r.2.2.2.2.2.2.2.2.2.2.1, .int X_side, .ref aXpicture, .ref aXhalf, .int r.2.2.2.2.2.2.2.2.2.2.2.1, .ref aXblocks, .int X_found, .int r.2.2.2.2.2.2.2.2.2.2.2.2.1, .ref aXencoded, .int r.2.2.2.2.2.2.2.2.2.2.2.2.2.1, .ref aXfed, .int X_readAt, .int X_why, .int r.2.2.2.2.2.2.2.2.2.2.2.2.2.2.1, .int X_waiting, .ref aXpile, .int r.2.2.2.2.2.2.2.2.2.2.2.2.2.2.2.1, .ref aXnews, .ref aXolds, .ref aXhalves, .ref aXds, .ref aXrs, .ref aXbest, .long X_bestError])) → zA ws 22 (aXpicture, .inl (cI, Xpicture_n, .inl r.2.2.2.2.2.2.2.2.2.2.2.2.2.2.2.2)) → (∀ (j : Nat), j ∉ ([1, 2, 3, 4, 8, 14, 17, 19, 21, 22] : List Nat) → ws[j]? = ws0[j]?) → W p l e room_1 s m #[Value.ref b] below meth c H locs ce sl Q (F0 m 974 ls [])) : W p l e room_1 s m #[Value.ref b] below meth c H locs cells slots Q (F0 m 963 ls []) := by
  obtain ⟨hfl, hx, hb, hml, hown, hts, hK, hZ, hX, hXs, hbl, hbA, hA, hA2⟩ := fx
  have hc10 : cells ≤ room_1.cells := Nat.le_of_succ_le hc1
  have hc20 : slots ≤ room_1.slots := Nat.le_trans (Nat.le_add_right _ _) hc2
  have hw : ∀ (j : Nat), j ∉ ([1, 2, 3, 4, 8, 14, 17, 19, 21, 22] : List Nat) → ws0[j]? = ws0[j]? := fun _ _ => rfl
  unfold f_LW_15 at hf
  refine lv_aload_n hx hb d_L_law_963 rfl (lv_at hl 1 rfl) ?_
  obtain ⟨q1179, hc, hf⟩ := z_b hf
  have hFc := z_free hD hS hA
  refine va_callv (va_runV (As := []) (rest := []) ⟨hx, hb, hml, hown, hts⟩ (c_F_clear l dC dI cI cL _ hN_O hN_P hN_PA hN_N hN_NA hN_S hN_K hN_C hN_I q1179 hc) (cw_L_125 hts ⟨Nat.le_of_ble_eq_true rfl, Nat.le_of_ble_eq_true rfl⟩) ⟨zbM, va_recv hK hP (ci := 0) rfl hN_O, (zpM hP hK hZ hD)⟩ rfl rfl hl.1 rfl (lv_room (Nat.le_of_ble_eq_true rfl)) d_L_law_964 ⟨hc10, hc20⟩) hS (fun q _ h => hFc q h) hFc (fun ws t H locs ht hvm hu hB hz1 hk1 hS => ?_)
  obtain ⟨hN_P, hN_PA, hN_N, hN_NA, hN_S, hN_K, hN_C, hN_I, hfr⟩ := hu
  obtain ⟨hP, -, hD1⟩ := hB
  rw [ht] at hP
  have hD := hD1.weaken (fun _ _ _ h => hFc _ h)
  have hN_P : zA ws 1 (aP, .inr (1, [.int P_mostSide, .ref aPA, .int q1179.1])) := hN_P
  have hN_PA : zA ws 2 (aPA, .inl (cI, PA_n, .inl q1179.2.1)) := hN_PA
  have hN_N : zA ws 3 (aN, .inr (1, [.int N_mostSide, .ref aNA, .int q1179.2.2.1])) := hN_N
  have hN_NA : zA ws 4 (aNA, .inl (cI, NA_n, .inl q1179.2.2.2.1)) := hN_NA
  have hN_S : zA ws 8 (aS, .inr (3, [.ref aP, .ref aH, .ref aV, .ref aW, .ref aD, .ref aQ, .ref aR, .ref aE, .int q1179.2.2.2.2.1, .int S_size, .int S_count, .int S_wantedSum, .int S_foundSum, .int S_foundSquares])) := hN_S
  have hN_K : zA ws 14 (aK, .inr (5, [.ref aKA, .int q1179.2.2.2.2.2.1])) := hN_K
  have hN_C : zA ws 17 (aC, .inr (6, [.ref aCA, .int q1179.2.2.2.2.2.2.1, .int q1179.2.2.2.2.2.2.2.1])) := hN_C
  have hN_I : zA ws 19 (aI, .inr (6, [.ref aIA, .int q1179.2.2.2.2.2.2.2.2.1, .int q1179.2.2.2.2.2.2.2.2.2])) := hN_I
  have hN_O := (hfr _ (by decide)).trans hN_O
  have hN_X := (hfr _ (by decide)).trans hN_X
  have hN_Xpicture := (hfr _ (by decide)).trans hN_Xpicture
  have hw := z_frC (by decide) hw hfr
  refine lv_aload_n hx hb d_L_law_967 rfl (lv_at hl 2 rfl) ?_
  obtain ⟨q1180, hc, hf⟩ := z_b hf
  have hFc := z_free hD hS hA
  refine va_callv (va_runV (As := []) (rest := []) ⟨hx, hb, hml, hown, hts⟩ (c_M_clear l dC dI cI cL _ hN_X hN_Xpicture q1180 hc) (cw_L_128 hts ⟨Nat.le_of_ble_eq_true rfl, Nat.le_of_ble_eq_true rfl⟩) ⟨zbM, va_recv hK hP (ci := 7) rfl hN_X, (zpM hP hK hZ hD)⟩ rfl rfl hl.1 rfl (lv_room (Nat.le_of_ble_eq_true rfl)) d_L_law_968 ⟨hc10, hc20⟩) hS (fun q _ h => hFc q h) hFc (fun ws t H locs ht hvm hu hB hz1 hk1 hS => ?_)
  obtain ⟨hN_X, hN_Xpicture, hfr⟩ := hu
  obtain ⟨hP, -, hD1⟩ := hB
  rw [ht] at hP
  have hD := hD1.weaken (fun _ _ _ h => hFc _ h)
  have hN_X : zA ws 21 (aX, .inr (7, [.int q1180.1, .int X_side, .ref aXpicture, .ref aXhalf, .int q1180.2.1, .ref aXblocks, .int X_found, .int q1180.2.2.1, .ref aXencoded, .int q1180.2.2.2.1, .ref aXfed, .int X_readAt, .int X_why, .int q1180.2.2.2.2.1, .int X_waiting, .ref aXpile, .int q1180.2.2.2.2.2.1, .ref aXnews, .ref aXolds, .ref aXhalves, .ref aXds, .ref aXrs, .ref aXbest, .long X_bestError])) := hN_X
  have hN_Xpicture : zA ws 22 (aXpicture, .inl (cI, Xpicture_n, .inl q1180.2.2.2.2.2.2)) := hN_Xpicture
  have hN_O := (hfr _ (by decide)).trans hN_O
  have hN_P := (hfr _ (by decide)).trans hN_P
  have hN_PA := (hfr _ (by decide)).trans hN_PA
  have hN_N := (hfr _ (by decide)).trans hN_N
  have hN_NA := (hfr _ (by decide)).trans hN_NA
  have hN_S := (hfr _ (by decide)).trans hN_S
  have hN_K := (hfr _ (by decide)).trans hN_K
  have hN_C := (hfr _ (by decide)).trans hN_C
  have hN_I := (hfr _ (by decide)).trans hN_I
  have hw := z_frC (by decide) hw hfr
  refine lv_goto (tgt := 974) hx hb d_L_law_971 (by decide) ?_
  obtain rfl := Option.some.inj hf
  exact kt _ _ _ ls _ _ (Nat.le_succ _) (Nat.le_add_right _ _) (lv_sub hl [0, 1, 2, 3, 4] rfl) hP hD hS hN_P hN_PA hN_N hN_NA hN_S hN_K hN_C hN_I hN_X hN_Xpicture hw
