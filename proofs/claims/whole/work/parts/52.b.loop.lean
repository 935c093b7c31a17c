set_option maxHeartbeats 4000000 in
set_option maxRecDepth 100000 in
theorem lw_loop {p : Program} {l : Launch} {e : Env} {s : State} {m : MethodId} {below : List Frame} {meth : Method} {c : Code} {b L : Nat} {xs : Nat → Int32} {dC : Nat → ClassId} {dI : Nat → Nat → Nat} {cI cL : ClassId} {A : Nat → Prop} {w d : Nat} {aO aP aPA aN aNA aH aHA aV aS aW aD aQ aR aE aK aKA aT aC aCA aI aIA aX aXpicture aXhalf aXblocks aXencoded aXfed aXpile aXnews aXolds aXhalves aXds aXrs aXbest aOUT : Nat} (fx : lwFix p l s m c b L xs dC dI cI cL A) (hr : meth.sig.returnType = ret) (hlocks : meth.locks = false) (hL : L ≤ 3073) : ∀ (n i : Nat) (ws : va_W) (H : Heap) (locs : List Loc) (ls : Array Slot) (cells slots : Nat), L ≤ i + 6 * n + 5 → i ≤ 4000 → cells + n ≤ 601024 → slots + 6 * n ≤ 7293000 → lv_has ls 8 [(0, .ref b), (1, .ref aO), (2, .ref aX), (3, .ref aOUT), (4, .int (nI i))] → va_P (dC, dI) classes ws H → va_D A ws → va_S A s.heap H locs → LW w d cI cL aO aP aPA aN aNA aH aHA aV aS aW aD aQ aR aE aK aKA aT aC aCA aI aIA aX aXpicture aXhalf aXblocks aXencoded aXfed aXpile aXnews aXolds aXhalves aXds aXrs aXbest aOUT ws → W p l e room_1 s m #[Value.ref b] below meth c H locs cells slots (lw_Z below #[Value.ref b] s) (F0 m 33 ls []) := by
  have fx0 := fx
  obtain ⟨hfl, hx, hb, hml, hown, hts, hK, hZ, hX, hXs, hbl, hbA, hA, hA2⟩ := fx0
  have cmp : ∀ i : Nat, i ≤ 4000 → (Int32.ofNat L - 6 < nI i ↔ (L : Int) - 6 < (i : Int)) := fun i hi => by
    have e1 : Int32.ofNat L - 6 = iI ((L : Int) - 6) := by
      show nI L - 6 = _
      rw [nJ_iI, show (6 : Int32) = iI 6 from rfl, iI_sub]
    rw [e1, nJ_iI]
    by_cases h : (L : Int) - 6 < (i : Int)
    · rw [iI_ltT h (by omega) (by omega)]; exact ⟨fun _ => h, fun _ => trivial⟩
    · rw [iI_ltF (by omega) (by omega) (by omega)]; exact ⟨fun q => q.elim, fun q => absurd q h⟩
  intro n
  induction n with
  | zero =>
    intro i ws H locs ls cells slots h1 h2 h3 h4 hl hP hD hS hW
    refine lv_iload hx hb d_L_law_33 (lv_at hl 4 rfl) ?_
    refine lv_aload_n hx hb d_L_law_35 rfl (lv_at hl 0 rfl) ?_
    refine va_slen hx hb hXs hbl hbA hS d_L_law_36 ?_
    refine lv_bipush (v := 6) hx hb d_L_law_37 (by decide) ?_
    refine lv_isub hx hb d_L_law_39 ?_
    refine lv_icmp_gt (tgt := 980) hx hb d_L_law_40 (by decide) (fun hc => ?_) (fun hc => ?_)
    · refine lv_iconst (v := 1) hx hb d_L_law_980 (by decide) ?_
      refine va_forget (fun q hq => Nat.le_of_not_lt (fun h => hA2 _ h (hS.2.2 q hq))) ?_
      refine W.widen (k := 601024) (n := 7293000) (by omega) (by omega) ?_
      exact lw_ret hx hb hr hlocks d_L_law_981
    · exact absurd ((cmp i h2).mpr (by omega)) hc
  | succ n ih =>
    intro i ws H locs ls cells slots h1 h2 h3 h4 hl hP hD hS hW
    refine lv_iload hx hb d_L_law_33 (lv_at hl 4 rfl) ?_
    refine lv_aload_n hx hb d_L_law_35 rfl (lv_at hl 0 rfl) ?_
    refine va_slen hx hb hXs hbl hbA hS d_L_law_36 ?_
    refine lv_bipush (v := 6) hx hb d_L_law_37 (by decide) ?_
    refine lv_isub hx hb d_L_law_39 ?_
    refine lv_icmp_gt (tgt := 980) hx hb d_L_law_40 (by decide) (fun hc => ?_) (fun hc => ?_)
    · refine lv_iconst (v := 1) hx hb d_L_law_980 (by decide) ?_
      refine va_forget (fun q hq => Nat.le_of_not_lt (fun h => hA2 _ h (hS.2.2 q hq))) ?_
      refine W.widen (k := 601024) (n := 7293000) (by omega) (by omega) ?_
      exact lw_ret hx hb hr hlocks d_L_law_981
    · have hi : i + 6 ≤ L := by
        by_cases h : (L : Int) - 6 < (i : Int)
        · exact absurd ((cmp i h2).mpr h) hc
        · omega
      have hin : ∀ j : Nat, j ≤ 5 → vp_in (nI (i + j)) L := fun j hj => by
        intro h
        rcases h with h | h
        · rw [n0, nJ_ltF (by omega) (by omega)] at h; exact h
        · rw [nJ_clamp (by omega)] at h; omega
      have hin0 : vp_in (nI i) L := hin 0 (by omega)
      have hin1 : vp_in (nI i + (1 : Int32)) L := by rw [n1, nJ_add]; exact hin 1 (by omega)
      have hin2 : vp_in (nI i + (2 : Int32)) L := by rw [n2, nJ_add]; exact hin 2 (by omega)
      have hin3 : vp_in (nI i + (3 : Int32)) L := by rw [n3, nJ_add]; exact hin 3 (by omega)
      have hin4 : vp_in (nI i + (4 : Int32)) L := by rw [n4, nJ_add]; exact hin 4 (by omega)
      have hin5 : vp_in (nI i + (5 : Int32)) L := by rw [n5, nJ_add]; exact hin 5 (by omega)
      have hc1 : cells + 1 ≤ room_1.cells := by show cells + 1 ≤ 601024; omega
      have hc2 : slots + 6 ≤ room_1.slots := by show slots + 6 ≤ 7293000; omega
      have kt : ∀ (ws : va_W) (H : Heap) (locs : List Loc) (ls : Array Slot) (ce sl : Nat), ce ≤ cells + 1 → sl ≤ slots + 6 → lv_has ls 8 [(0, .ref b), (1, .ref aO), (2, .ref aX), (3, .ref aOUT), (4, .int (nI i))] → va_P (dC, dI) classes ws H → va_D A ws → va_S A s.heap H locs → LW w d cI cL aO aP aPA aN aNA aH aHA aV aS aW aD aQ aR aE aK aKA aT aC aCA aI aIA aX aXpicture aXhalf aXblocks aXencoded aXfed aXpile aXnews aXolds aXhalves aXds aXrs aXbest aOUT ws → W p l e room_1 s m #[Value.ref b] below meth c H locs ce sl (lw_Z below #[Value.ref b] s) (F0 m 974 ls []) := by
        intro ws H locs ls ce sl q1 q2 hl hP hD hS hW
        refine lv_iinc (v := (nI i + 6)) (lv' := [(4, .int (nI i + 6)), (0, .ref b), (1, .ref aO), (2, .ref aX), (3, .ref aOUT)]) hx hb d_L_law_974 hl (k := 4) rfl rfl (by decide) rfl (fun ls hl => ?_)
        refine lv_goto (tgt := 33) hx hb d_L_law_977 (by decide) ?_
        rw [n6, nJ_add] at hl
        exact ih (i + 6) ws H locs ls ce sl (by omega) (by omega) (by omega) (by omega) (lv_sub hl [1, 2, 3, 4, 0] rfl) hP hD hS hW
      refine lv_aload_n hx hb d_L_law_43 rfl (lv_at hl 0 rfl) ?_
      refine lv_iload hx hb d_L_law_44 (lv_at hl 4 rfl) ?_
      refine va_sld hx hb hXs hbl hbA hS hin0 d_L_law_46 ?_
      refine lv_bipush (v := 15) hx hb d_L_law_47 (by decide) ?_
      refine lv_iand hx hb d_L_law_49 ?_
      by_cases hc_0 : (xs (nI i).toNatClampNeg &&& (15 : Int32)) = (0 : Int32)
      · refine lv_tableIn (tgt := 128) hx hb d_L_law_50 (by rw [hc_0]; decide) (by rw [hc_0]; decide) (by rw [hc_0]; rfl) (by decide) ?_
        exact ls_0 fx hc1 hc2 hl hP hD hS hW hin1 hin2 hin3 kt
      have he_0 : (xs (nI i).toNatClampNeg &&& (15 : Int32)).toInt ≠ 0 := fun h => hc_0 (Int32.toInt_inj.mp (h.trans (by decide)))
      by_cases hc_1 : (xs (nI i).toNatClampNeg &&& (15 : Int32)) = (1 : Int32)
      · refine lv_tableIn (tgt := 208) hx hb d_L_law_50 (by rw [hc_1]; decide) (by rw [hc_1]; decide) (by rw [hc_1]; rfl) (by decide) ?_
        exact ls_1 fx hc1 hc2 hl hP hD hS hW hin1 hin2 hin3 kt
      have he_1 : (xs (nI i).toNatClampNeg &&& (15 : Int32)).toInt ≠ 1 := fun h => hc_1 (Int32.toInt_inj.mp (h.trans (by decide)))
      by_cases hc_2 : (xs (nI i).toNatClampNeg &&& (15 : Int32)) = (2 : Int32)
      · refine lv_tableIn (tgt := 257) hx hb d_L_law_50 (by rw [hc_2]; decide) (by rw [hc_2]; decide) (by rw [hc_2]; rfl) (by decide) ?_
        exact ls_2 fx hc1 hc2 hl hP hD hS hW hin1 hin2 kt
      have he_2 : (xs (nI i).toNatClampNeg &&& (15 : Int32)).toInt ≠ 2 := fun h => hc_2 (Int32.toInt_inj.mp (h.trans (by decide)))
      by_cases hc_3 : (xs (nI i).toNatClampNeg &&& (15 : Int32)) = (3 : Int32)
      · refine lv_tableIn (tgt := 325) hx hb d_L_law_50 (by rw [hc_3]; decide) (by rw [hc_3]; decide) (by rw [hc_3]; rfl) (by decide) ?_
        exact ls_3 fx hc1 hc2 hl hP hD hS hW hin1 hin2 kt
      have he_3 : (xs (nI i).toNatClampNeg &&& (15 : Int32)).toInt ≠ 3 := fun h => hc_3 (Int32.toInt_inj.mp (h.trans (by decide)))
      by_cases hc_4 : (xs (nI i).toNatClampNeg &&& (15 : Int32)) = (4 : Int32)
      · refine lv_tableIn (tgt := 393) hx hb d_L_law_50 (by rw [hc_4]; decide) (by rw [hc_4]; decide) (by rw [hc_4]; rfl) (by decide) ?_
        exact ls_4 fx hc1 hc2 hl hP hD hS hW hin1 kt
      have he_4 : (xs (nI i).toNatClampNeg &&& (15 : Int32)).toInt ≠ 4 := fun h => hc_4 (Int32.toInt_inj.mp (h.trans (by decide)))
      by_cases hc_5 : (xs (nI i).toNatClampNeg &&& (15 : Int32)) = (5 : Int32)
      · refine lv_tableIn (tgt := 449) hx hb d_L_law_50 (by rw [hc_5]; decide) (by rw [hc_5]; decide) (by rw [hc_5]; rfl) (by decide) ?_
        exact ls_5 fx hc1 hc2 hl hP hD hS hW hin1 kt
      have he_5 : (xs (nI i).toNatClampNeg &&& (15 : Int32)).toInt ≠ 5 := fun h => hc_5 (Int32.toInt_inj.mp (h.trans (by decide)))
      by_cases hc_6 : (xs (nI i).toNatClampNeg &&& (15 : Int32)) = (6 : Int32)
      · refine lv_tableIn (tgt := 505) hx hb d_L_law_50 (by rw [hc_6]; decide) (by rw [hc_6]; decide) (by rw [hc_6]; rfl) (by decide) ?_
        exact ls_6 fx hc1 hc2 hl hP hD hS hW kt
      have he_6 : (xs (nI i).toNatClampNeg &&& (15 : Int32)).toInt ≠ 6 := fun h => hc_6 (Int32.toInt_inj.mp (h.trans (by decide)))
      by_cases hc_7 : (xs (nI i).toNatClampNeg &&& (15 : Int32)) = (7 : Int32)
      · refine lv_tableIn (tgt := 549) hx hb d_L_law_50 (by rw [hc_7]; decide) (by rw [hc_7]; decide) (by rw [hc_7]; rfl) (by decide) ?_
        exact ls_7 fx hc1 hc2 hl hP hD hS hW kt
      have he_7 : (xs (nI i).toNatClampNeg &&& (15 : Int32)).toInt ≠ 7 := fun h => hc_7 (Int32.toInt_inj.mp (h.trans (by decide)))
      by_cases hc_8 : (xs (nI i).toNatClampNeg &&& (15 : Int32)) = (8 : Int32)
      · refine lv_tableIn (tgt := 562) hx hb d_L_law_50 (by rw [hc_8]; decide) (by rw [hc_8]; decide) (by rw [hc_8]; rfl) (by decide) ?_
        exact ls_8 fx hc1 hc2 hl hP hD hS hW hin1 hin2 kt
      have he_8 : (xs (nI i).toNatClampNeg &&& (15 : Int32)).toInt ≠ 8 := fun h => hc_8 (Int32.toInt_inj.mp (h.trans (by decide)))
      by_cases hc_9 : (xs (nI i).toNatClampNeg &&& (15 : Int32)) = (9 : Int32)
      · refine lv_tableIn (tgt := 630) hx hb d_L_law_50 (by rw [hc_9]; decide) (by rw [hc_9]; decide) (by rw [hc_9]; rfl) (by decide) ?_
        exact ls_9 fx hc1 hc2 hl hP hD hS hW hin1 hin2 kt
      have he_9 : (xs (nI i).toNatClampNeg &&& (15 : Int32)).toInt ≠ 9 := fun h => hc_9 (Int32.toInt_inj.mp (h.trans (by decide)))
      by_cases hc_10 : (xs (nI i).toNatClampNeg &&& (15 : Int32)) = (10 : Int32)
      · refine lv_tableIn (tgt := 698) hx hb d_L_law_50 (by rw [hc_10]; decide) (by rw [hc_10]; decide) (by rw [hc_10]; rfl) (by decide) ?_
        exact ls_10 fx hc1 hc2 hl hP hD hS hW kt
      have he_10 : (xs (nI i).toNatClampNeg &&& (15 : Int32)).toInt ≠ 10 := fun h => hc_10 (Int32.toInt_inj.mp (h.trans (by decide)))
      by_cases hc_11 : (xs (nI i).toNatClampNeg &&& (15 : Int32)) = (11 : Int32)
      · refine lv_tableIn (tgt := 741) hx hb d_L_law_50 (by rw [hc_11]; decide) (by rw [hc_11]; decide) (by rw [hc_11]; rfl) (by decide) ?_
        exact ls_11 fx hc1 hc2 hl hP hD hS hW hin1 hin2 hin3 hin4 hin5 kt
      have he_11 : (xs (nI i).toNatClampNeg &&& (15 : Int32)).toInt ≠ 11 := fun h => hc_11 (Int32.toInt_inj.mp (h.trans (by decide)))
      by_cases hc_12 : (xs (nI i).toNatClampNeg &&& (15 : Int32)) = (12 : Int32)
      · refine lv_tableIn (tgt := 845) hx hb d_L_law_50 (by rw [hc_12]; decide) (by rw [hc_12]; decide) (by rw [hc_12]; rfl) (by decide) ?_
        exact ls_12 fx hc1 hc2 hl hP hD hS hW hin1 hin2 hin3 kt
      have he_12 : (xs (nI i).toNatClampNeg &&& (15 : Int32)).toInt ≠ 12 := fun h => hc_12 (Int32.toInt_inj.mp (h.trans (by decide)))
      by_cases hc_13 : (xs (nI i).toNatClampNeg &&& (15 : Int32)) = (13 : Int32)
      · refine lv_tableIn (tgt := 925) hx hb d_L_law_50 (by rw [hc_13]; decide) (by rw [hc_13]; decide) (by rw [hc_13]; rfl) (by decide) ?_
        exact ls_13 fx hc1 hc2 hl hP hD hS hW kt
      have he_13 : (xs (nI i).toNatClampNeg &&& (15 : Int32)).toInt ≠ 13 := fun h => hc_13 (Int32.toInt_inj.mp (h.trans (by decide)))
      by_cases hc_14 : (xs (nI i).toNatClampNeg &&& (15 : Int32)) = (14 : Int32)
      · refine lv_tableIn (tgt := 938) hx hb d_L_law_50 (by rw [hc_14]; decide) (by rw [hc_14]; decide) (by rw [hc_14]; rfl) (by decide) ?_
        exact ls_14 fx hc1 hc2 hl hP hD hS hW hin1 kt
      have he_14 : (xs (nI i).toNatClampNeg &&& (15 : Int32)).toInt ≠ 14 := fun h => hc_14 (Int32.toInt_inj.mp (h.trans (by decide)))
      by_cases hc_15 : (xs (nI i).toNatClampNeg &&& (15 : Int32)) = (15 : Int32)
      · refine lv_tableIn (tgt := 963) hx hb d_L_law_50 (by rw [hc_15]; decide) (by rw [hc_15]; decide) (by rw [hc_15]; rfl) (by decide) ?_
        exact ls_15 fx hc1 hc2 hl hP hD hS hW kt
      have he_15 : (xs (nI i).toNatClampNeg &&& (15 : Int32)).toInt ≠ 15 := fun h => hc_15 (Int32.toInt_inj.mp (h.trans (by decide)))
      refine lv_tableOut (tgt := 974) hx hb d_L_law_50 (by omega) (by decide) ?_
      exact kt ws H locs ls cells slots (Nat.le_succ _) (Nat.le_add_right _ _) hl hP hD hS hW
