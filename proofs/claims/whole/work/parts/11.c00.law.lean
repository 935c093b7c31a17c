def f_LW_0 (a1 : Int32) (a2 : Int32) (a3 : Int32) (P_side : Int32) (PA_n : Nat) (PA_f : Nat → Int32) (X_code : Int32) (X_side : Int32) (Xpicture_n : Nat) (Xpicture_f : Nat → Int32) (OUT_n : Nat) (OUT_f : Nat → Int64) : Option ((Nat → Int32) × Int32 × (Nat → Int32) × (Nat → Int64)) := (f_L_put a1 a2 a3 P_side PA_n PA_f OUT_n OUT_f).bind (fun q1125 => (f_M_put a1 a2 a3 X_code X_side Xpicture_n Xpicture_f).bind (fun q1126 => (f_M_thrown q1126.2.1).bind (fun q1127 => if q1127 = q1125.1 then (if q1125.1 = 0 then (if (0 : Int32) < 0 ∨ OUT_n ≤ (0 : Int32).toNatClampNeg then none else (if (lg_cmp (q1125.2.2 (0 : Int32).toNatClampNeg) q1126.1.toInt64) = 0 then (some (q1125.2.1, q1126.2.1, q1126.2.2, q1125.2.2)) else (none))) else (some (q1125.2.1, q1126.2.1, q1126.2.2, q1125.2.2))) else (none))))
set_option maxHeartbeats 4000000 in
set_option maxRecDepth 100000 in
theorem lc_0 {p : Program} {l : Launch} {e : Env} {s : State} {m : MethodId} {below : List Frame} {meth : Method} {c : Code} {b L : Nat} {xs : Nat → Int32} {dC : Nat → ClassId} {dI : Nat → Nat → Nat} {cI cL : ClassId} {A : Nat → Prop} {Q : State → Prop} {ws0 : va_W} {H : Heap} {locs : List Loc} {cells slots : Nat} {ls : Array Slot} {v4 : Int32} {aO aP aN aH aV aS aK aT aC aI aPA aX aXpicture aXhalf aXblocks aXencoded aXfed aXpile aXnews aXolds aXhalves aXds aXrs aXbest aOUT : Nat} {O_side : Int32} {P_mostSide : Int32} {P_side : Int32} {PA_n : Nat} {PA_f : Nat → Int32} {X_code : Int32} {X_side : Int32} {X_many : Int32} {X_found : Int32} {X_encodedBits : Int32} {X_fedMany : Int32} {X_readAt : Int32} {X_why : Int32} {X_tried : Int32} {X_waiting : Int32} {X_decoded : Int32} {X_bestError : Int64} {Xpicture_n : Nat} {Xpicture_f : Nat → Int32} {OUT_n : Nat} {OUT_f : Nat → Int64} (fx : lwFix p l s m c b L xs dC dI cI cL A) (hc1 : cells + 1 ≤ room_1.cells) (hc2 : slots + 6 ≤ room_1.slots) (hl : lv_has ls 8 [(0, .ref b), (1, .ref aO), (2, .ref aX), (3, .ref aOUT), (4, .int v4)]) (hP : va_P (dC, dI) classes ws0 H) (hD : va_D A ws0) (hS : va_S A s.heap H locs) (hN_O : zA ws0 0 (aO, .inr (0, [.int O_side, .ref aP, .ref aN, .ref aH, .ref aV, .ref aS, .ref aK, .ref aT, .ref aC, .ref aI]))) (hN_P : zA ws0 1 (aP, .inr (1, [.int P_mostSide, .ref aPA, .int P_side]))) (hN_PA : zA ws0 2 (aPA, .inl (cI, PA_n, .inl PA_f))) (hN_X : zA ws0 21 (aX, .inr (7, [.int X_code, .int X_side, .ref aXpicture, .ref aXhalf, .int X_many, .ref aXblocks, .int X_found, .int X_encodedBits, .ref aXencoded, .int X_fedMany, .ref aXfed, .int X_readAt, .int X_why, .int X_tried, .int X_waiting, .ref aXpile, .int X_decoded, .ref aXnews, .ref aXolds, .ref aXhalves, .ref aXds, .ref aXrs, .ref aXbest, .long X_bestError]))) (hN_Xpicture : zA ws0 22 (aXpicture, .inl (cI, Xpicture_n, .inl Xpicture_f))) (hN_OUT : zA ws0 34 (aOUT, .inl (cL, OUT_n, .inr (.inl OUT_f)))) (hin1 : vp_in (v4 + (1 : Int32)) L) (hin2 : vp_in (v4 + (2 : Int32)) L) (hin3 : vp_in (v4 + (3 : Int32)) L) (r : (Nat → Int32) × Int32 × (Nat → Int32) × (Nat → Int64)) (hf : f_LW_0 (xs (v4 + (1 : Int32)).toNatClampNeg) (xs (v4 + (2 : Int32)).toNatClampNeg) (xs (v4 + (3 : Int32)).toNatClampNeg) P_side PA_n PA_f X_code X_side Xpicture_n Xpicture_f OUT_n OUT_f = some r) (kt : ∀ (ws : va_W) (H : Heap) (locs : List Loc) (ls : Array Slot) (ce sl : Nat), ce ≤ cells + 1 → sl ≤ slots + 6 → lv_has ls 8 [(0, .ref b), (1, .ref aO), (2, .ref aX), (3, .ref aOUT), (4, .int v4)] → va_P (dC, dI) classes ws H → va_D A ws → va_S A s.heap H locs → zA ws 2 (aPA, .inl (cI, PA_n, .inl r.1)) → zA ws 21 (aX, .inr (7, [.int r.2.1, .int X_side, .ref aXpicture, .ref aXhalf, .int X_many, .ref aXblocks, .int X_found, .int X_encodedBits, .ref aXencoded, .int X_fedMany, .ref aXfed, .int X_readAt, .int X_why, .int X_tried, .int X_waiting, .ref aXpile, .int X_decoded, .ref aXnews, .ref aXolds, .ref aXhalves, .ref aXds, .ref aXrs, .ref aXbest, .long X_bestError])) → zA ws 22 (aXpicture, .inl (cI, Xpicture_n, .inl r.2.2.1)) → zA ws 34 (aOUT, .inl (cL, OUT_n, .inr (.inl r.2.2.2))) → (∀ (j : Nat), j ∉ ([2, 21, 22, 34] : List Nat) → ws[j]? = ws0[j]?) → W p l e room_1 s m #[Value.ref b] below meth c H locs ce sl Q (F0 m 974 ls [])) : W p l e room_1 s m #[Value.ref b] below meth c H locs cells slots Q (F0 m 128 ls []) := by
  obtain ⟨hfl, hx, hb, hml, hown, hts, hK, hZ, hX, hXs, hbl, hbA, hA, hA2⟩ := fx
  have hc10 : cells ≤ room_1.cells := Nat.le_of_succ_le hc1
  have hc20 : slots ≤ room_1.slots := Nat.le_trans (Nat.le_add_right _ _) hc2
  have hw : ∀ (j : Nat), j ∉ ([2, 21, 22, 34] : List Nat) → ws0[j]? = ws0[j]? := fun _ _ => rfl
  unfold f_LW_0 at hf
  refine lv_aload_n hx hb d_L_law_128 rfl (lv_at hl 1 rfl) ?_
  refine lv_aload_n hx hb d_L_law_129 rfl (lv_at hl 0 rfl) ?_
  refine lv_iload hx hb d_L_law_130 (lv_at hl 4 rfl) ?_
  refine lv_iconst (v := 1) hx hb d_L_law_132 (by decide) ?_
  refine lv_iadd hx hb d_L_law_133 ?_
  refine va_sld hx hb hXs hbl hbA hS hin1 d_L_law_134 ?_
  refine lv_aload_n hx hb d_L_law_135 rfl (lv_at hl 0 rfl) ?_
  refine lv_iload hx hb d_L_law_136 (lv_at hl 4 rfl) ?_
  refine lv_iconst (v := 2) hx hb d_L_law_138 (by decide) ?_
  refine lv_iadd hx hb d_L_law_139 ?_
  refine va_sld hx hb hXs hbl hbA hS hin2 d_L_law_140 ?_
  refine lv_aload_n hx hb d_L_law_141 rfl (lv_at hl 0 rfl) ?_
  refine lv_iload hx hb d_L_law_142 (lv_at hl 4 rfl) ?_
  refine lv_iconst (v := 3) hx hb d_L_law_144 (by decide) ?_
  refine lv_iadd hx hb d_L_law_145 ?_
  refine va_sld hx hb hXs hbl hbA hS hin3 d_L_law_146 ?_
  refine lv_aload_n hx hb d_L_law_147 rfl (lv_at hl 3 rfl) ?_
  obtain ⟨q1125, hc, hf⟩ := z_b hf
  have hFc := z_free hD hS hA
  refine va_calli (z_runSW (As := [.ref aO, .int (xs (v4 + (1 : Int32)).toNatClampNeg), .int (xs (v4 + (2 : Int32)).toNatClampNeg), .int (xs (v4 + (3 : Int32)).toNatClampNeg), .ref aOUT]) (rest := []) ⟨hx, hb, hml, hown, hts⟩ (c_L_put l hfl dC dI cI cL _ (xs (v4 + (1 : Int32)).toNatClampNeg) (xs (v4 + (2 : Int32)).toNatClampNeg) (xs (v4 + (3 : Int32)).toNatClampNeg) hN_O hN_P hN_PA hN_OUT q1125 hc) (cw_L_68 hts ⟨Nat.le_of_ble_eq_true rfl, Nat.le_of_ble_eq_true rfl⟩) ⟨zbT, zpT hP hK hZ hD hX (z_keep hA2 hS)⟩ rfl rfl hl.1 rfl (lv_room (Nat.le_of_ble_eq_true rfl)) d_L_law_148 ⟨hc1, hc2⟩) hS (fun q _ h => hFc q h) hFc (fun rv ws t H locs ht hvm hu hB hz1 hk1 hS => ?_)
  obtain ⟨hv, hN_PA, hN_OUT, hfr⟩ := hu
  have hv := hv.symm
  subst hv
  obtain ⟨hP, -, hD1⟩ := hB
  rw [ht] at hP
  have hD := hD1.weaken (fun _ _ _ h => hFc _ h)
  have hN_PA : zA ws 2 (aPA, .inl (cI, PA_n, .inl q1125.2.1)) := hN_PA
  have hN_OUT : zA ws 34 (aOUT, .inl (cL, OUT_n, .inr (.inl q1125.2.2))) := hN_OUT
  have hN_O := (hfr _ (by decide)).trans hN_O
  have hN_P := (hfr _ (by decide)).trans hN_P
  have hN_X := (hfr _ (by decide)).trans hN_X
  have hN_Xpicture := (hfr _ (by decide)).trans hN_Xpicture
  have hw := z_frC (by decide) hw hfr
  refine lv_istore (lv' := [(5, .int q1125.1), (0, .ref b), (1, .ref aO), (2, .ref aX), (3, .ref aOUT), (4, .int v4)]) hx hb d_L_law_151 hl (by decide) rfl (fun ls hl => ?_)
  refine lv_aload_n hx hb d_L_law_153 rfl (lv_at hl 3 rfl) ?_
  refine lv_aload_n hx hb d_L_law_154 rfl (lv_at hl 1 rfl) ?_
  refine lv_iload hx hb d_L_law_155 (lv_at hl 5 rfl) ?_
  refine lv_iconst (v := 1) hx hb d_L_law_157 (by decide) ?_
  refine lv_iadd hx hb d_L_law_158 ?_
  refine va_sld hx hb hXs hbl hbA hS hin1 d_L_law_159 ?_
  refine lv_aload_n hx hb d_L_law_160 rfl (lv_at hl 1 rfl) ?_
  refine lv_iload hx hb d_L_law_161 (lv_at hl 5 rfl) ?_
  refine lv_iconst (v := 2) hx hb d_L_law_163 (by decide) ?_
  refine lv_iadd hx hb d_L_law_164 ?_
  refine va_sld hx hb hXs hbl hbA hS hin2 d_L_law_165 ?_
  refine lv_aload_n hx hb d_L_law_166 rfl (lv_at hl 1 rfl) ?_
  refine lv_iload hx hb d_L_law_167 (lv_at hl 5 rfl) ?_
  refine lv_iconst (v := 3) hx hb d_L_law_169 (by decide) ?_
  refine lv_iadd hx hb d_L_law_170 ?_
  refine va_sld hx hb hXs hbl hbA hS hin3 d_L_law_171 ?_
  obtain ⟨q1126, hc, hf⟩ := z_b hf
  have hFc := z_free hD hS hA
  refine va_calli (va_runV (As := [.int (xs (v4 + (1 : Int32)).toNatClampNeg), .int (xs (v4 + (2 : Int32)).toNatClampNeg), .int (xs (v4 + (3 : Int32)).toNatClampNeg)]) (rest := []) ⟨hx, hb, hml, hown, hts⟩ (c_M_put l dC dI cI cL _ (xs (v4 + (1 : Int32)).toNatClampNeg) (xs (v4 + (2 : Int32)).toNatClampNeg) (xs (v4 + (3 : Int32)).toNatClampNeg) hN_X hN_Xpicture q1126 hc) (cw_L_71 hts ⟨Nat.le_of_ble_eq_true rfl, Nat.le_of_ble_eq_true rfl⟩) ⟨zbM, va_recv hK hP (ci := 7) rfl hN_X, (zpM hP hK hZ hD)⟩ rfl rfl hl.1 rfl (lv_room (Nat.le_of_ble_eq_true rfl)) d_L_law_172 ⟨hc1, hc2⟩) hS (fun q _ h => hFc q h) hFc (fun rv ws t H locs ht hvm hu hB hz1 hk1 hS => ?_)
  obtain ⟨hv, hN_X, hN_Xpicture, hfr⟩ := hu
  subst hv
  obtain ⟨hP, -, hD1⟩ := hB
  rw [ht] at hP
  have hD := hD1.weaken (fun _ _ _ h => hFc _ h)
  have hN_X : zA ws 21 (aX, .inr (7, [.int q1126.2.1, .int X_side, .ref aXpicture, .ref aXhalf, .int X_many, .ref aXblocks, .int X_found, .int X_encodedBits, .ref aXencoded, .int X_fedMany, .ref aXfed, .int X_readAt, .int X_why, .int X_tried, .int X_waiting, .ref aXpile, .int X_decoded, .ref aXnews, .ref aXolds, .ref aXhalves, .ref aXds, .ref aXrs, .ref aXbest, .long X_bestError])) := hN_X
  have hN_Xpicture : zA ws 22 (aXpicture, .inl (cI, Xpicture_n, .inl q1126.2.2)) := hN_Xpicture
  have hN_O := (hfr _ (by decide)).trans hN_O
  have hN_P := (hfr _ (by decide)).trans hN_P
  have hN_PA := (hfr _ (by decide)).trans hN_PA
  have hN_OUT := (hfr _ (by decide)).trans hN_OUT
  have hw := z_frC (by decide) hw hfr
  refine lv_istore (lv' := [(6, .int q1126.1), (5, .int q1125.1), (0, .ref b), (1, .ref aO), (2, .ref aX), (3, .ref aOUT), (4, .int v4)]) hx hb d_L_law_175 hl (by decide) rfl (fun ls hl => ?_)
  refine lv_aload_n hx hb d_L_law_177 rfl (lv_at hl 4 rfl) ?_
  obtain ⟨q1127, hc, hf⟩ := z_b hf
  refine vp_callSi (z_cr (va_runV (As := []) (rest := []) ⟨hx, hb, hml, hown, hts⟩ (c_M_thrown l dC dI cI cL hN_X q1127 hc) (cw_L_72 hts ⟨Nat.le_of_ble_eq_true rfl, Nat.le_of_ble_eq_true rfl⟩) ⟨zbR, va_recv hK hP (ci := 7) rfl hN_X, (zpR hP hK hZ)⟩ rfl rfl hl.1 rfl (lv_room (Nat.le_of_ble_eq_true rfl)) d_L_law_178 ⟨hc1, hc2⟩)) (fun r1128 hv => ?_)
  have hv := hv.symm
  subst hv
  refine lv_iload hx hb d_L_law_181 (lv_at hl 1 rfl) ?_
  refine lv_icmp_eq (tgt := 188) hx hb d_L_law_183 (by decide) (fun hc => ?_) (fun hc => ?_)
  · have hf := z_t hc hf
    refine lv_iload hx hb d_L_law_188 (lv_at hl 1 rfl) ?_
    refine lv_if_ne (tgt := 205) hx hb d_L_law_190 (by decide) (fun hc => ?_) (fun hc => ?_)
    · have hf := z_f hc hf
      refine lv_goto (tgt := 974) hx hb d_L_law_205 (by decide) ?_
      obtain rfl := Option.some.inj hf
      exact kt _ _ _ ls _ _ (Nat.le_refl _) (Nat.le_refl _) (lv_sub hl [2, 3, 4, 5, 6] rfl) hP hD hS hN_PA hN_X hN_Xpicture hN_OUT hw
    · have hf := z_t hc hf
      refine lv_aload_n hx hb d_L_law_193 rfl (lv_at hl 5 rfl) ?_
      refine lv_iconst (v := 0) hx hb d_L_law_194 (by decide) ?_
      obtain ⟨hin, hf⟩ := z_no hf
      refine va_lald hx hb hK hP _ 1 hN_OUT rfl hin d_L_law_195 ?_
      refine lv_iload hx hb d_L_law_196 (lv_at hl 0 rfl) ?_
      refine lv_i2l hx hb d_L_law_198 rfl ?_
      refine W.lcmp hx hb d_L_law_199 ?_
      refine lv_if_eq (tgt := 205) hx hb d_L_law_200 (by decide) (fun hc => ?_) (fun hc => ?_)
      · have hf := z_t hc hf
        refine lv_goto (tgt := 974) hx hb d_L_law_205 (by decide) ?_
        obtain rfl := Option.some.inj hf
        exact kt _ _ _ ls _ _ (Nat.le_refl _) (Nat.le_refl _) (lv_sub hl [2, 3, 4, 5, 6] rfl) hP hD hS hN_PA hN_X hN_Xpicture hN_OUT hw
      · have hf := z_f hc hf
        refine lv_iconst (v := 0) hx hb d_L_law_203 (by decide) ?_
        cases hf
  · have hf := z_f hc hf
    refine lv_iconst (v := 0) hx hb d_L_law_186 (by decide) ?_
    cases hf
def f_LW_1 (a1 : Int32) (a2 : Int32) (a3 : Int32) (O_side : Int32) (P_side : Int32) (PA_n : Nat) (PA_f : Nat → Int32) (X_code : Int32) (X_side : Int32) (Xpicture_n : Nat) (Xpicture_f : Nat → Int32) : Option ((Nat → Int32) × Int32 × (Nat → Int32)) := (f_F_paint a1 a2 a3 O_side P_side PA_n PA_f).bind (fun q1129 => (f_M_paint a1 a2 a3 X_side Xpicture_n Xpicture_f).bind (fun q1130 => if q1129.1 = q1130.1 then (some (q1129.2, q1130.2.1, q1130.2.2)) else (none)))
set_option maxHeartbeats 4000000 in
set_option maxRecDepth 100000 in
theorem lc_1 {p : Program} {l : Launch} {e : Env} {s : State} {m : MethodId} {below : List Frame} {meth : Method} {c : Code} {b L : Nat} {xs : Nat → Int32} {dC : Nat → ClassId} {dI : Nat → Nat → Nat} {cI cL : ClassId} {A : Nat → Prop} {Q : State → Prop} {ws0 : va_W} {H : Heap} {locs : List Loc} {cells slots : Nat} {ls : Array Slot} {v4 : Int32} {aO aP aN aH aV aS aK aT aC aI aPA aX aXpicture aXhalf aXblocks aXencoded aXfed aXpile aXnews aXolds aXhalves aXds aXrs aXbest aOUT : Nat} {O_side : Int32} {P_mostSide : Int32} {P_side : Int32} {PA_n : Nat} {PA_f : Nat → Int32} {X_code : Int32} {X_side : Int32} {X_many : Int32} {X_found : Int32} {X_encodedBits : Int32} {X_fedMany : Int32} {X_readAt : Int32} {X_why : Int32} {X_tried : Int32} {X_waiting : Int32} {X_decoded : Int32} {X_bestError : Int64} {Xpicture_n : Nat} {Xpicture_f : Nat → Int32} (fx : lwFix p l s m c b L xs dC dI cI cL A) (hc1 : cells + 1 ≤ room_1.cells) (hc2 : slots + 6 ≤ room_1.slots) (hl : lv_has ls 8 [(0, .ref b), (1, .ref aO), (2, .ref aX), (3, .ref aOUT), (4, .int v4)]) (hP : va_P (dC, dI) classes ws0 H) (hD : va_D A ws0) (hS : va_S A s.heap H locs) (hN_O : zA ws0 0 (aO, .inr (0, [.int O_side, .ref aP, .ref aN, .ref aH, .ref aV, .ref aS, .ref aK, .ref aT, .ref aC, .ref aI]))) (hN_P : zA ws0 1 (aP, .inr (1, [.int P_mostSide, .ref aPA, .int P_side]))) (hN_PA : zA ws0 2 (aPA, .inl (cI, PA_n, .inl PA_f))) (hN_X : zA ws0 21 (aX, .inr (7, [.int X_code, .int X_side, .ref aXpicture, .ref aXhalf, .int X_many, .ref aXblocks, .int X_found, .int X_encodedBits, .ref aXencoded, .int X_fedMany, .ref aXfed, .int X_readAt, .int X_why, .int X_tried, .int X_waiting, .ref aXpile, .int X_decoded, .ref aXnews, .ref aXolds, .ref aXhalves, .ref aXds, .ref aXrs, .ref aXbest, .long X_bestError]))) (hN_Xpicture : zA ws0 22 (aXpicture, .inl (cI, Xpicture_n, .inl Xpicture_f))) (hin1 : vp_in (v4 + (1 : Int32)) L) (hin2 : vp_in (v4 + (2 : Int32)) L) (hin3 : vp_in (v4 + (3 : Int32)) L) (r : (Nat → Int32) × Int32 × (Nat → Int32)) (hf : f_LW_1 (xs (v4 + (1 : Int32)).toNatClampNeg) (xs (v4 + (2 : Int32)).toNatClampNeg) (xs (v4 + (3 : Int32)).toNatClampNeg) O_side P_side PA_n PA_f X_code X_side Xpicture_n Xpicture_f = some r) (kt : ∀ (ws : va_W) (H : Heap) (locs : List Loc) (ls : Array Slot) (ce sl : Nat), ce ≤ cells + 1 → sl ≤ slots + 6 → lv_has ls 8 [(0, .ref b), (1, .ref aO), (2, .ref aX), (3, .ref aOUT), (4, .int v4)] → va_P (dC, dI) classes ws H → va_D A ws → va_S A s.heap H locs → zA ws 2 (aPA, .inl (cI, PA_n, .inl r.1)) → zA ws 21 (aX, .inr (7, [.int r.2.1, .int X_side, .ref aXpicture, .ref aXhalf, .int X_many, .ref aXblocks, .int X_found, .int X_encodedBits, .ref aXencoded, .int X_fedMany, .ref aXfed, .int X_readAt, .int X_why, .int X_tried, .int X_waiting, .ref aXpile, .int X_decoded, .ref aXnews, .ref aXolds, .ref aXhalves, .ref aXds, .ref aXrs, .ref aXbest, .long X_bestError])) → zA ws 22 (aXpicture, .inl (cI, Xpicture_n, .inl r.2.2)) → (∀ (j : Nat), j ∉ ([2, 21, 22] : List Nat) → ws[j]? = ws0[j]?) → W p l e room_1 s m #[Value.ref b] below meth c H locs ce sl Q (F0 m 974 ls [])) : W p l e room_1 s m #[Value.ref b] below meth c H locs cells slots Q (F0 m 208 ls []) := by
  obtain ⟨hfl, hx, hb, hml, hown, hts, hK, hZ, hX, hXs, hbl, hbA, hA, hA2⟩ := fx
  have hc10 : cells ≤ room_1.cells := Nat.le_of_succ_le hc1
  have hc20 : slots ≤ room_1.slots := Nat.le_trans (Nat.le_add_right _ _) hc2
  have hw : ∀ (j : Nat), j ∉ ([2, 21, 22] : List Nat) → ws0[j]? = ws0[j]? := fun _ _ => rfl
  unfold f_LW_1 at hf
  refine lv_aload_n hx hb d_L_law_208 rfl (lv_at hl 1 rfl) ?_
  refine lv_aload_n hx hb d_L_law_209 rfl (lv_at hl 0 rfl) ?_
  refine lv_iload hx hb d_L_law_210 (lv_at hl 4 rfl) ?_
  refine lv_iconst (v := 1) hx hb d_L_law_212 (by decide) ?_
  refine lv_iadd hx hb d_L_law_213 ?_
  refine va_sld hx hb hXs hbl hbA hS hin1 d_L_law_214 ?_
  refine lv_aload_n hx hb d_L_law_215 rfl (lv_at hl 0 rfl) ?_
  refine lv_iload hx hb d_L_law_216 (lv_at hl 4 rfl) ?_
  refine lv_iconst (v := 2) hx hb d_L_law_218 (by decide) ?_
  refine lv_iadd hx hb d_L_law_219 ?_
  refine va_sld hx hb hXs hbl hbA hS hin2 d_L_law_220 ?_
  refine lv_aload_n hx hb d_L_law_221 rfl (lv_at hl 0 rfl) ?_
  refine lv_iload hx hb d_L_law_222 (lv_at hl 4 rfl) ?_
  refine lv_iconst (v := 3) hx hb d_L_law_224 (by decide) ?_
  refine lv_iadd hx hb d_L_law_225 ?_
  refine va_sld hx hb hXs hbl hbA hS hin3 d_L_law_226 ?_
  obtain ⟨q1129, hc, hf⟩ := z_b hf
  have hFc := z_free hD hS hA
  refine va_calli (va_runV (As := [.int (xs (v4 + (1 : Int32)).toNatClampNeg), .int (xs (v4 + (2 : Int32)).toNatClampNeg), .int (xs (v4 + (3 : Int32)).toNatClampNeg)]) (rest := []) ⟨hx, hb, hml, hown, hts⟩ (c_F_paint l dC dI cI cL _ (xs (v4 + (1 : Int32)).toNatClampNeg) (xs (v4 + (2 : Int32)).toNatClampNeg) (xs (v4 + (3 : Int32)).toNatClampNeg) hN_O hN_P hN_PA q1129 hc) (cw_L_75 hts ⟨Nat.le_of_ble_eq_true rfl, Nat.le_of_ble_eq_true rfl⟩) ⟨zbM, va_recv hK hP (ci := 0) rfl hN_O, (zpM hP hK hZ hD)⟩ rfl rfl hl.1 rfl (lv_room (Nat.le_of_ble_eq_true rfl)) d_L_law_227 ⟨hc10, hc20⟩) hS (fun q _ h => hFc q h) hFc (fun rv ws t H locs ht hvm hu hB hz1 hk1 hS => ?_)
  obtain ⟨hv, hN_PA, hfr⟩ := hu
  subst hv
  obtain ⟨hP, -, hD1⟩ := hB
  rw [ht] at hP
  have hD := hD1.weaken (fun _ _ _ h => hFc _ h)
  have hN_PA : zA ws 2 (aPA, .inl (cI, PA_n, .inl q1129.2)) := hN_PA
  have hN_O := (hfr _ (by decide)).trans hN_O
  have hN_P := (hfr _ (by decide)).trans hN_P
  have hN_X := (hfr _ (by decide)).trans hN_X
  have hN_Xpicture := (hfr _ (by decide)).trans hN_Xpicture
  have hw := z_frC (by decide) hw hfr
  refine lv_aload_n hx hb d_L_law_230 rfl (lv_at hl 2 rfl) ?_
  refine lv_aload_n hx hb d_L_law_231 rfl (lv_at hl 0 rfl) ?_
  refine lv_iload hx hb d_L_law_232 (lv_at hl 4 rfl) ?_
  refine lv_iconst (v := 1) hx hb d_L_law_234 (by decide) ?_
  refine lv_iadd hx hb d_L_law_235 ?_
  refine va_sld hx hb hXs hbl hbA hS hin1 d_L_law_236 ?_
  refine lv_aload_n hx hb d_L_law_237 rfl (lv_at hl 0 rfl) ?_
  refine lv_iload hx hb d_L_law_238 (lv_at hl 4 rfl) ?_
  refine lv_iconst (v := 2) hx hb d_L_law_240 (by decide) ?_
  refine lv_iadd hx hb d_L_law_241 ?_
  refine va_sld hx hb hXs hbl hbA hS hin2 d_L_law_242 ?_
  refine lv_aload_n hx hb d_L_law_243 rfl (lv_at hl 0 rfl) ?_
  refine lv_iload hx hb d_L_law_244 (lv_at hl 4 rfl) ?_
  refine lv_iconst (v := 3) hx hb d_L_law_246 (by decide) ?_
  refine lv_iadd hx hb d_L_law_247 ?_
  refine va_sld hx hb hXs hbl hbA hS hin3 d_L_law_248 ?_
  obtain ⟨q1130, hc, hf⟩ := z_b hf
  have hFc := z_free hD hS hA
  refine va_calli (va_runV (As := [.int (xs (v4 + (1 : Int32)).toNatClampNeg), .int (xs (v4 + (2 : Int32)).toNatClampNeg), .int (xs (v4 + (3 : Int32)).toNatClampNeg)]) (rest := [.int q1129.1]) ⟨hx, hb, hml, hown, hts⟩ (c_M_paint l dC dI cI cL _ (xs (v4 + (1 : Int32)).toNatClampNeg) (xs (v4 + (2 : Int32)).toNatClampNeg) (xs (v4 + (3 : Int32)).toNatClampNeg) hN_X hN_Xpicture q1130 hc) (cw_L_78 hts ⟨Nat.le_of_ble_eq_true rfl, Nat.le_of_ble_eq_true rfl⟩) ⟨zbM, va_recv hK hP (ci := 7) rfl hN_X, (zpM hP hK hZ hD)⟩ rfl rfl hl.1 rfl (lv_room (Nat.le_of_ble_eq_true rfl)) d_L_law_249 ⟨hc10, hc20⟩) hS (fun q _ h => hFc q h) hFc (fun rv ws t H locs ht hvm hu hB hz1 hk1 hS => ?_)
  obtain ⟨hv, hN_X, hN_Xpicture, hfr⟩ := hu
  subst hv
  obtain ⟨hP, -, hD1⟩ := hB
  rw [ht] at hP
  have hD := hD1.weaken (fun _ _ _ h => hFc _ h)
  have hN_X : zA ws 21 (aX, .inr (7, [.int q1130.2.1, .int X_side, .ref aXpicture, .ref aXhalf, .int X_many, .ref aXblocks, .int X_found, .int X_encodedBits, .ref aXencoded, .int X_fedMany, .ref aXfed, .int X_readAt, .int X_why, .int X_tried, .int X_waiting, .ref aXpile, .int X_decoded, .ref aXnews, .ref aXolds, .ref aXhalves, .ref aXds, .ref aXrs, .ref aXbest, .long X_bestError])) := hN_X
  have hN_Xpicture : zA ws 22 (aXpicture, .inl (cI, Xpicture_n, .inl q1130.2.2)) := hN_Xpicture
  have hN_O := (hfr _ (by decide)).trans hN_O
  have hN_P := (hfr _ (by decide)).trans hN_P
  have hN_PA := (hfr _ (by decide)).trans hN_PA
  have hw := z_frC (by decide) hw hfr
  refine lv_icmp_eq (tgt := 974) hx hb d_L_law_252 (by decide) (fun hc => ?_) (fun hc => ?_)
  · have hf := z_t hc hf
    obtain rfl := Option.some.inj hf
    exact kt _ _ _ ls _ _ (Nat.le_succ _) (Nat.le_add_right _ _) (lv_sub hl [0, 1, 2, 3, 4] rfl) hP hD hS hN_PA hN_X hN_Xpicture hw
  · have hf := z_f hc hf
    refine lv_iconst (v := 0) hx hb d_L_law_255 (by decide) ?_
    cases hf
def f_LW_2 (a1 : Int32) (a2 : Int32) (O_side : Int32) (P_side : Int32) (PA_n : Nat) (PA_f : Nat → Int32) (H_mostSide : Int32) (H_side : Int32) (HA_n : Nat) (HA_f : Nat → Int32) (V_left : Int32) (V_top : Int32) (V_start : Int32) (V_stepAcross : Int32) (V_stepDown : Int32) (S_tried : Int32) (S_size : Int32) (S_count : Int32) (S_wantedSum : Int32) (S_foundSum : Int32) (S_foundSquares : Int32) (W_n : Nat) (W_f : Nat → Int32) (D_n : Nat) (D_f : Nat → Int32) (Q_n : Nat) (Q_f : Nat → Int32) (R_n : Nat) (R_f : Nat → Int32) (E_domain : Int32) (E_turn : Int32) (E_contrast : Int32) (E_offset : Int32) (E_error : Int32) (K_count : Int32) (KA_n : Nat) (KA_f : Nat → Int32) (C_filled : Int32) (C_taken : Int32) (CA_n : Nat) (CA_f : Nat → Int32) (X_code : Int32) (X_side : Int32) (X_many : Int32) (X_found : Int32) (X_encodedBits : Int32) (X_tried : Int32) (X_waiting : Int32) (X_bestError : Int64) (Xpicture_n : Nat) (Xpicture_f : Nat → Int32) (Xhalf_n : Nat) (Xhalf_f : Nat → Int32) (Xblocks_n : Nat) (Xblocks_f : Nat → Int32) (Xencoded_n : Nat) (Xencoded_f : Nat → Int32) (Xpile_n : Nat) (Xpile_f : Nat → Int32) (Xds_n : Nat) (Xds_f : Nat → Int32) (Xrs_n : Nat) (Xrs_f : Nat → Int32) (Xbest_n : Nat) (Xbest_f : Nat → Int32) (OUT_n : Nat) (OUT_f : Nat → Int64) : Option (Int32 × (Nat → Int32) × Int32 × Int32 × Int32 × Int32 × Int32 × Int32 × Int32 × Int32 × Int32 × Int32 × Int32 × (Nat → Int32) × (Nat → Int32) × (Nat → Int32) × (Nat → Int32) × Int32 × Int32 × Int32 × Int32 × Int32 × Int32 × (Nat → Int32) × Int32 × Int32 × (Nat → Int32) × Int32 × Int32 × Int32 × Int32 × Int32 × Int32 × Int64 × (Nat → Int32) × (Nat → Int32) × (Nat → Int32) × (Nat → Int32) × (Nat → Int32) × (Nat → Int32) × (Nat → Int32) × (Nat → Int64)) := (f_L_encode a1 a2 O_side P_side PA_n PA_f H_mostSide H_side HA_n HA_f V_left V_top V_start V_stepAcross V_stepDown S_tried S_size S_count S_wantedSum S_foundSum S_foundSquares W_n W_f D_n D_f Q_n Q_f R_n R_f E_domain E_turn E_contrast E_offset E_error K_count KA_n KA_f C_filled C_taken CA_n CA_f OUT_n OUT_f).bind (fun q1131 => (f_M_encode a1 a2 X_code X_side X_many X_found X_encodedBits X_tried X_waiting X_bestError Xpicture_n Xpicture_f Xhalf_n Xhalf_f Xblocks_n Xblocks_f Xencoded_n Xencoded_f Xpile_n Xpile_f Xds_n Xds_f Xrs_n Xrs_f Xbest_n Xbest_f).bind (fun q1132 => (f_M_thrown q1132.2.1).bind (fun q1133 => if q1133 = q1131.1 then (if q1131.1 = 0 then (if (0 : Int32) < 0 ∨ OUT_n ≤ (0 : Int32).toNatClampNeg then none else (if (lg_cmp (q1131.2.2.2.2.2.2.2.2.2.2.2.2.2.2.2.2.2.2.2.2.2.2.2.2.2.2.2.2 (0 : Int32).toNatClampNeg) q1132.1.toInt64) = 0 then (some (q1131.2.1, q1131.2.2.1, q1131.2.2.2.1, q1131.2.2.2.2.1, q1131.2.2.2.2.2.1, q1131.2.2.2.2.2.2.1, q1131.2.2.2.2.2.2.2.1, q1131.2.2.2.2.2.2.2.2.1, q1131.2.2.2.2.2.2.2.2.2.1, q1131.2.2.2.2.2.2.2.2.2.2.1, q1131.2.2.2.2.2.2.2.2.2.2.2.1, q1131.2.2.2.2.2.2.2.2.2.2.2.2.1, q1131.2.2.2.2.2.2.2.2.2.2.2.2.2.1, q1131.2.2.2.2.2.2.2.2.2.2.2.2.2.2.1, q1131.2.2.2.2.2.2.2.2.2.2.2.2.2.2.2.1, q1131.2.2.2.2.2.2.2.2.2.2.2.2.2.2.2.2.1, q1131.2.2.2.2.2.2.2.2.2.2.2.2.2.2.2.2.2.1, q1131.2.2.2.2.2.2.2.2.2.2.2.2.2.2.2.2.2.2.1, q1131.2.2.2.2.2.2.2.2.2.2.2.2.2.2.2.2.2.2.2.1, q1131.2.2.2.2.2.2.2.2.2.2.2.2.2.2.2.2.2.2.2.2.1, q1131.2.2.2.2.2.2.2.2.2.2.2.2.2.2.2.2.2.2.2.2.2.1, q1131.2.2.2.2.2.2.2.2.2.2.2.2.2.2.2.2.2.2.2.2.2.2.1, q1131.2.2.2.2.2.2.2.2.2.2.2.2.2.2.2.2.2.2.2.2.2.2.2.1, q1131.2.2.2.2.2.2.2.2.2.2.2.2.2.2.2.2.2.2.2.2.2.2.2.2.1, q1131.2.2.2.2.2.2.2.2.2.2.2.2.2.2.2.2.2.2.2.2.2.2.2.2.2.1, q1131.2.2.2.2.2.2.2.2.2.2.2.2.2.2.2.2.2.2.2.2.2.2.2.2.2.2.1, q1131.2.2.2.2.2.2.2.2.2.2.2.2.2.2.2.2.2.2.2.2.2.2.2.2.2.2.2.1, q1132.2.1, q1132.2.2.1, q1132.2.2.2.1, q1132.2.2.2.2.1, q1132.2.2.2.2.2.1, q1132.2.2.2.2.2.2.1, q1132.2.2.2.2.2.2.2.1, q1132.2.2.2.2.2.2.2.2.1, q1132.2.2.2.2.2.2.2.2.2.1, q1132.2.2.2.2.2.2.2.2.2.2.1, q1132.2.2.2.2.2.2.2.2.2.2.2.1, q1132.2.2.2.2.2.2.2.2.2.2.2.2.1, q1132.2.2.2.2.2.2.2.2.2.2.2.2.2.1, q1132.2.2.2.2.2.2.2.2.2.2.2.2.2.2, q1131.2.2.2.2.2.2.2.2.2.2.2.2.2.2.2.2.2.2.2.2.2.2.2.2.2.2.2.2)) else (none))) else (some (q1131.2.1, q1131.2.2.1, q1131.2.2.2.1, q1131.2.2.2.2.1, q1131.2.2.2.2.2.1, q1131.2.2.2.2.2.2.1, q1131.2.2.2.2.2.2.2.1, q1131.2.2.2.2.2.2.2.2.1, q1131.2.2.2.2.2.2.2.2.2.1, q1131.2.2.2.2.2.2.2.2.2.2.1, q1131.2.2.2.2.2.2.2.2.2.2.2.1, q1131.2.2.2.2.2.2.2.2.2.2.2.2.1, q1131.2.2.2.2.2.2.2.2.2.2.2.2.2.1, q1131.2.2.2.2.2.2.2.2.2.2.2.2.2.2.1, q1131.2.2.2.2.2.2.2.2.2.2.2.2.2.2.2.1, q1131.2.2.2.2.2.2.2.2.2.2.2.2.2.2.2.2.1, q1131.2.2.2.2.2.2.2.2.2.2.2.2.2.2.2.2.2.1, q1131.2.2.2.2.2.2.2.2.2.2.2.2.2.2.2.2.2.2.1, q1131.2.2.2.2.2.2.2.2.2.2.2.2.2.2.2.2.2.2.2.1, q1131.2.2.2.2.2.2.2.2.2.2.2.2.2.2.2.2.2.2.2.2.1, q1131.2.2.2.2.2.2.2.2.2.2.2.2.2.2.2.2.2.2.2.2.2.1, q1131.2.2.2.2.2.2.2.2.2.2.2.2.2.2.2.2.2.2.2.2.2.2.1, q1131.2.2.2.2.2.2.2.2.2.2.2.2.2.2.2.2.2.2.2.2.2.2.2.1, q1131.2.2.2.2.2.2.2.2.2.2.2.2.2.2.2.2.2.2.2.2.2.2.2.2.1, q1131.2.2.2.2.2.2.2.2.2.2.2.2.2.2.2.2.2.2.2.2.2.2.2.2.2.1, q1131.2.2.2.2.2.2.2.2.2.2.2.2.2.2.2.2.2.2.2.2.2.2.2.2.2.2.1, q1131.2.2.2.2.2.2.2.2.2.2.2.2.2.2.2.2.2.2.2.2.2.2.2.2.2.2.2.1, q1132.2.1, q1132.2.2.1, q1132.2.2.2.1, q1132.2.2.2.2.1, q1132.2.2.2.2.2.1, q1132.2.2.2.2.2.2.1, q1132.2.2.2.2.2.2.2.1, q1132.2.2.2.2.2.2.2.2.1, q1132.2.2.2.2.2.2.2.2.2.1, q1132.2.2.2.2.2.2.2.2.2.2.1, q1132.2.2.2.2.2.2.2.2.2.2.2.1, q1132.2.2.2.2.2.2.2.2.2.2.2.2.1, q1132.2.2.2.2.2.2.2.2.2.2.2.2.2.1, q1132.2.2.2.2.2.2.2.2.2.2.2.2.2.2, q1131.2.2.2.2.2.2.2.2.2.2.2.2.2.2.2.2.2.2.2.2.2.2.2.2.2.2.2.2))) else (none))))
set_option maxHeartbeats 4000000 in
set_option maxRecDepth 100000 in
theorem lc_2 {p : Program} {l : Launch} {e : Env} {s : State} {m : MethodId} {below : List Frame} {meth : Method} {c : Code} {b L : Nat} {xs : Nat → Int32} {dC : Nat → ClassId} {dI : Nat → Nat → Nat} {cI cL : ClassId} {A : Nat → Prop} {Q : State → Prop} {ws0 : va_W} {H : Heap} {locs : List Loc} {cells slots : Nat} {ls : Array Slot} {v4 : Int32} {aO aP aN aH aV aS aK aT aC aI aPA aHA aW aD aQ aR aE aKA aCA aX aXpicture aXhalf aXblocks aXencoded aXfed aXpile aXnews aXolds aXhalves aXds aXrs aXbest aOUT : Nat} {O_side : Int32} {P_mostSide : Int32} {P_side : Int32} {PA_n : Nat} {PA_f : Nat → Int32} {H_mostSide : Int32} {H_side : Int32} {HA_n : Nat} {HA_f : Nat → Int32} {V_left : Int32} {V_top : Int32} {V_start : Int32} {V_stepAcross : Int32} {V_stepDown : Int32} {S_tried : Int32} {S_size : Int32} {S_count : Int32} {S_wantedSum : Int32} {S_foundSum : Int32} {S_foundSquares : Int32} {W_n : Nat} {W_f : Nat → Int32} {D_n : Nat} {D_f : Nat → Int32} {Q_n : Nat} {Q_f : Nat → Int32} {R_n : Nat} {R_f : Nat → Int32} {E_domain : Int32} {E_turn : Int32} {E_contrast : Int32} {E_offset : Int32} {E_error : Int32} {K_count : Int32} {KA_n : Nat} {KA_f : Nat → Int32} {C_filled : Int32} {C_taken : Int32} {CA_n : Nat} {CA_f : Nat → Int32} {X_code : Int32} {X_side : Int32} {X_many : Int32} {X_found : Int32} {X_encodedBits : Int32} {X_fedMany : Int32} {X_readAt : Int32} {X_why : Int32} {X_tried : Int32} {X_waiting : Int32} {X_decoded : Int32} {X_bestError : Int64} {Xpicture_n : Nat} {Xpicture_f : Nat → Int32} {Xhalf_n : Nat} {Xhalf_f : Nat → Int32} {Xblocks_n : Nat} {Xblocks_f : Nat → Int32} {Xencoded_n : Nat} {Xencoded_f : Nat → Int32} {Xpile_n : Nat} {Xpile_f : Nat → Int32} {Xds_n : Nat} {Xds_f : Nat → Int32} {Xrs_n : Nat} {Xrs_f : Nat → Int32} {Xbest_n : Nat} {Xbest_f : Nat → Int32} {OUT_n : Nat} {OUT_f : Nat → Int64} (fx : lwFix p l s m c b L xs dC dI cI cL A) (hc1 : cells + 1 ≤ room_1.cells) (hc2 : slots + 6 ≤ room_1.slots) (hl : lv_has ls 8 [(0, .ref b), (1, .ref aO), (2, .ref aX), (3, .ref aOUT), (4, .int v4)]) (hP : va_P (dC, dI) classes ws0 H) (hD : va_D A ws0) (hS : va_S A s.heap H locs) (hN_O : zA ws0 0 (aO, .inr (0, [.int O_side, .ref aP, .ref aN, .ref aH, .ref aV, .ref aS, .ref aK, .ref aT, .ref aC, .ref aI]))) (hN_P : zA ws0 1 (aP, .inr (1, [.int P_mostSide, .ref aPA, .int P_side]))) (hN_PA : zA ws0 2 (aPA, .inl (cI, PA_n, .inl PA_f))) (hN_H : zA ws0 5 (aH, .inr (1, [.int H_mostSide, .ref aHA, .int H_side]))) (hN_HA : zA ws0 6 (aHA, .inl (cI, HA_n, .inl HA_f))) (hN_V : zA ws0 7 (aV, .inr (2, [.ref aH, .int V_left, .int V_top, .int V_start, .int V_stepAcross, .int V_stepDown]))) (hN_S : zA ws0 8 (aS, .inr (3, [.ref aP, .ref aH, .ref aV, .ref aW, .ref aD, .ref aQ, .ref aR, .ref aE, .int S_tried, .int S_size, .int S_count, .int S_wantedSum, .int S_foundSum, .int S_foundSquares]))) (hN_W : zA ws0 9 (aW, .inl (cI, W_n, .inl W_f))) (hN_D : zA ws0 10 (aD, .inl (cI, D_n, .inl D_f))) (hN_Q : zA ws0 11 (aQ, .inl (cI, Q_n, .inl Q_f))) (hN_R : zA ws0 12 (aR, .inl (cI, R_n, .inl R_f))) (hN_E : zA ws0 13 (aE, .inr (4, [.int E_domain, .int E_turn, .int E_contrast, .int E_offset, .int E_error]))) (hN_K : zA ws0 14 (aK, .inr (5, [.ref aKA, .int K_count]))) (hN_KA : zA ws0 15 (aKA, .inl (cI, KA_n, .inl KA_f))) (hN_C : zA ws0 17 (aC, .inr (6, [.ref aCA, .int C_filled, .int C_taken]))) (hN_CA : zA ws0 18 (aCA, .inl (cI, CA_n, .inl CA_f))) (hN_X : zA ws0 21 (aX, .inr (7, [.int X_code, .int X_side, .ref aXpicture, .ref aXhalf, .int X_many, .ref aXblocks, .int X_found, .int X_encodedBits, .ref aXencoded, .int X_fedMany, .ref aXfed, .int X_readAt, .int X_why, .int X_tried, .int X_waiting, .ref aXpile, .int X_decoded, .ref aXnews, .ref aXolds, .ref aXhalves, .ref aXds, .ref aXrs, .ref aXbest, .long X_bestError]))) (hN_Xpicture : zA ws0 22 (aXpicture, .inl (cI, Xpicture_n, .inl Xpicture_f))) (hN_Xhalf : zA ws0 23 (aXhalf, .inl (cI, Xhalf_n, .inl Xhalf_f))) (hN_Xblocks : zA ws0 24 (aXblocks, .inl (cI, Xblocks_n, .inl Xblocks_f))) (hN_Xencoded : zA ws0 25 (aXencoded, .inl (cI, Xencoded_n, .inl Xencoded_f))) (hN_Xpile : zA ws0 27 (aXpile, .inl (cI, Xpile_n, .inl Xpile_f))) (hN_Xds : zA ws0 31 (aXds, .inl (cI, Xds_n, .inl Xds_f))) (hN_Xrs : zA ws0 32 (aXrs, .inl (cI, Xrs_n, .inl Xrs_f))) (hN_Xbest : zA ws0 33 (aXbest, .inl (cI, Xbest_n, .inl Xbest_f))) (hN_OUT : zA ws0 34 (aOUT, .inl (cL, OUT_n, .inr (.inl OUT_f)))) (hin1 : vp_in (v4 + (1 : Int32)) L) (hin2 : vp_in (v4 + (2 : Int32)) L) (r : Int32 × (Nat → Int32) × Int32 × Int32 × Int32 × Int32 × Int32 × Int32 × Int32 × Int32 × Int32 × Int32 × Int32 × (Nat → Int32) × (Nat → Int32) × (Nat → Int32) × (Nat → Int32) × Int32 × Int32 × Int32 × Int32 × Int32 × Int32 × (Nat → Int32) × Int32 × Int32 × (Nat → Int32) × Int32 × Int32 × Int32 × Int32 × Int32 × Int32 × Int64 × (Nat → Int32) × (Nat → Int32) × (Nat → Int32) × (Nat → Int32) × (Nat → Int32) × (Nat → Int32) × (Nat → Int32) × (Nat → Int64)) (hf : f_LW_2 (xs (v4 + (1 : Int32)).toNatClampNeg) (xs (v4 + (2 : Int32)).toNatClampNeg) O_side P_side PA_n PA_f H_mostSide H_side HA_n HA_f V_left V_top V_start V_stepAcross V_stepDown S_tried S_size S_count S_wantedSum S_foundSum S_foundSquares W_n W_f D_n D_f Q_n Q_f R_n R_f E_domain E_turn E_contrast E_offset E_error K_count KA_n KA_f C_filled C_taken CA_n CA_f X_code X_side X_many X_found X_encodedBits X_tried X_waiting X_bestError Xpicture_n Xpicture_f Xhalf_n Xhalf_f Xblocks_n Xblocks_f Xencoded_n Xencoded_f Xpile_n Xpile_f Xds_n Xds_f Xrs_n Xrs_f Xbest_n Xbest_f OUT_n OUT_f = some r) (kt : ∀ (ws : va_W) (H : Heap) (locs : List Loc) (ls : Array Slot) (ce sl : Nat), ce ≤ cells + 1 → sl ≤ slots + 6 → lv_has ls 8 [(0, .ref b), (1, .ref aO), (2, .ref aX), (3, .ref aOUT), (4, .int v4)] → va_P (dC, dI) classes ws H → va_D A ws → va_S A s.heap H locs → zA ws 5 (aH, .inr (1, [.int H_mostSide, .ref aHA, .int r.1])) → zA ws 6 (aHA, .inl (cI, HA_n, .inl r.2.1)) → zA ws 7 (aV, .inr (2, [.ref aH, .int r.2.2.1, .int r.2.2.2.1, .int r.2.2.2.2.1, .int r.2.2.2.2.2.1, .int r.2.2.2.2.2.2.1])) → zA ws 8 (aS, .inr (3, [.ref aP, .ref aH, .ref aV, .ref aW, .ref aD, .ref aQ, .ref aR, .ref aE, .int r.2.2.2.2.2.2.2.1, .int r.2.2.2.2.2.2.2.2.1, .int r.2.2.2.2.2.2.2.2.2.1, .int r.2.2.2.2.2.2.2.2.2.2.1, .int r.2.2.2.2.2.2.2.2.2.2.2.1, .int r.2.2.2.2.2.2.2.2.2.2.2.2.1])) → zA ws 9 (aW, .inl (cI, W_n, .inl r.2.2.2.2.2.2.2.2.2.2.2.2.2.1)) → zA ws 10 (aD, .inl (cI, D_n, .inl r.2.2.2.2.2.2.2.2.2.2.2.2.2.2.1)) → zA ws 11 (aQ, .inl (cI, Q_n, .inl r.2.2.2.2.2.2.2.2.2.2.2.2.2.2.2.1)) → zA ws 12 (aR, .inl (cI, R_n, .inl r.2.2.2.2.2.2.2.2.2.2.2.2.2.2.2.2.1)) → zA ws 13 (aE, .inr (4, [.int r.2.2.2.2.2.2.2.2.2.2.2.2.2.2.2.2.2.1, .int r.2.2.2.2.2.2.2.2.2.2.2.2.2.2.2.2.2.2.1, .int r.2.2.2.2.2.2.2.2.2.2.2.2.2.2.2.2.2.2.2.1, .int r.2.2.2.2.2.2.2.2.2.2.2.2.2.2.2.2.2.2.2.2.1, .int r.2.2.2.2.2.2.2.2.2.2.2.2.2.2.2.2.2.2.2.2.2.1])) → zA ws 14 (aK, .inr (5, [.ref aKA, .int r.2.2.2.2.2.2.2.2.2.2.2.2.2.2.2.2.2.2.2.2.2.2.1])) → zA ws 15 (aKA, .inl (cI, KA_n, .inl r.2.2.2.2.2.2.2.2.2.2.2.2.2.2.2.2.2.2.2.2.2.2.2.1)) → zA ws 17 (aC, .inr (6, [.ref aCA, .int r.2.2.2.2.2.2.2.2.2.2.2.2.2.2.2.2.2.2.2.2.2.2.2.2.1, .int r.2.2.2.2.2.2.2.2.2.2.2.2.2.2.2.2.2.2.2.2.2.2.2.2.2.1])) → zA ws 18 (aCA, .inl (cI, CA_n, .inl r.2.2.2.2.2.2.2.2.2.2.2.2.2.2.2.2.2.2.2.2.2.2.2.2.2.2.1)) → zA ws 21 (aX, .inr (7, [.int r.2.2.2.2.2.2.2.2.2.2.2.2.2.2.2.2.2.2.2.2.2.2.2.2.2.2.2.1, .int X_side, .ref aXpicture, .ref aXhalf, .int r.2.2.2.2.2.2.2.2.2.2.2.2.2.2.2.2.2.2.2.2.2.2.2.2.2.2.2.2.1, .ref aXblocks, .int r.2.2.2.2.2.2.2.2.2.2.2.2.2.2.2.2.2.2.2.2.2.2.2.2.2.2.2.2.2.1, .int r.2.2.2.2.2.2.2.2.2.2.2.2.2.2.2.2.2.2.2.2.2.2.2.2.2.2.2.2.2.2.1, .ref aXencoded, .int X_fedMany, .ref aXfed, .int X_readAt, .int X_why, .int r.2.2.2.2.2.2.2.2.2.2.2.2.2.2.2.2.2.2.2.2.2.2.2.2.2.2.2.2.2.2.2.1, .int r.2.2.2.2.2.2.2.2.2.2.2.2.2.2.2.2.2.2.2.2.2.2.2.2.2.2.2.2.2.2.2.2.1, .ref aXpile, .int X_decoded, .ref aXnews, .ref aXolds, .ref aXhalves, .ref aXds, .ref aXrs, .ref aXbest, .long r.2.2.2.2.2.2.2.2.2.2.2.2.2.2.2.2.2.2.2.2.2.2.2.2.2.2.2.2.2.2.2.2.2.1])) → zA ws 23 (aXhalf, .inl (cI, Xhalf_n, .inl r.2.2.2.2.2.2.2.2.2.2.2.2.2.2.2.2.2.2.2.2.2.2.2.2.2.2.2.2.2.2.2.2.2.2.1)) → zA ws 24 (aXblocks, .inl (cI, Xblocks_n, .inl r.2.2.2.2.2.2.2.2.2.2.2.2.2.2.2.2.2.2.2.2.2.2.2.2.2.2.2.2.2.2.2.2.2.2.2.1)) → zA ws 25 (aXencoded, .inl (cI, Xencoded_n, .inl r.2.2.2.2.2.2.2.2.2.2.2.2.2.2.2.2.2.2.2.2.2.2.2.2.2.2.2.2.2.2.2.2.2.2.2.2.1)) → zA ws 27 (aXpile, .inl (cI, Xpile_n, .inl r.2.2.2.2.2.2.2.2.2.2.2.2.2.2.2.2.2.2.2.2.2.2.2.2.2.2.2.2.2.2.2.2.2.2.2.2.2.1)) → zA ws 31 (aXds, .inl (cI, Xds_n, .inl r.2.2.2.2.2.2.2.2.2.2.2.2.2.2.2.2.2.2.2.2.2.2.2.2.2.2.2.2.2.2.2.2.2.2.2.2.2.2.1)) → zA ws 32 (aXrs, .inl (cI, Xrs_n, .inl r.2.2.2.2.2.2.2.2.2.2.2.2.2.2.2.2.2.2.2.2.2.2.2.2.2.2.2.2.2.2.2.2.2.2.2.2.2.2.2.1)) → zA ws 33 (aXbest, .inl (cI, Xbest_n, .inl r.2.2.2.2.2.2.2.2.2.2.2.2.2.2.2.2.2.2.2.2.2.2.2.2.2.2.2.2.2.2.2.2.2.2.2.2.2.2.2.2.1)) → zA ws 34 (aOUT, .inl (cL, OUT_n, .inr (.inl r.2.2.2.2.2.2.2.2.2.2.2.2.2.2.2.2.2.2.2.2.2.2.2.2.2.2.2.2.2.2.2.2.2.2.2.2.2.2.2.2.2))) → (∀ (j : Nat), j ∉ ([5, 6, 7, 8, 9, 10, 11, 12, 13, 14, 15, 17, 18, 21, 23, 24, 25, 27, 31, 32, 33, 34] : List Nat) → ws[j]? = ws0[j]?) → W p l e room_1 s m #[Value.ref b] below meth c H locs ce sl Q (F0 m 974 ls [])) : W p l e room_1 s m #[Value.ref b] below meth c H locs cells slots Q (F0 m 257 ls []) := by
  obtain ⟨hfl, hx, hb, hml, hown, hts, hK, hZ, hX, hXs, hbl, hbA, hA, hA2⟩ := fx
  have hc10 : cells ≤ room_1.cells := Nat.le_of_succ_le hc1
  have hc20 : slots ≤ room_1.slots := Nat.le_trans (Nat.le_add_right _ _) hc2
  have hw : ∀ (j : Nat), j ∉ ([5, 6, 7, 8, 9, 10, 11, 12, 13, 14, 15, 17, 18, 21, 23, 24, 25, 27, 31, 32, 33, 34] : List Nat) → ws0[j]? = ws0[j]? := fun _ _ => rfl
  unfold f_LW_2 at hf
  refine lv_aload_n hx hb d_L_law_257 rfl (lv_at hl 1 rfl) ?_
  refine lv_aload_n hx hb d_L_law_258 rfl (lv_at hl 0 rfl) ?_
  refine lv_iload hx hb d_L_law_259 (lv_at hl 4 rfl) ?_
  refine lv_iconst (v := 1) hx hb d_L_law_261 (by decide) ?_
  refine lv_iadd hx hb d_L_law_262 ?_
  refine va_sld hx hb hXs hbl hbA hS hin1 d_L_law_263 ?_
  refine lv_aload_n hx hb d_L_law_264 rfl (lv_at hl 0 rfl) ?_
  refine lv_iload hx hb d_L_law_265 (lv_at hl 4 rfl) ?_
  refine lv_iconst (v := 2) hx hb d_L_law_267 (by decide) ?_
  refine lv_iadd hx hb d_L_law_268 ?_
  refine va_sld hx hb hXs hbl hbA hS hin2 d_L_law_269 ?_
  refine lv_aload_n hx hb d_L_law_270 rfl (lv_at hl 3 rfl) ?_
  obtain ⟨q1131, hc, hf⟩ := z_b hf
  have hFc := z_free hD hS hA
  refine va_calli (z_runSW (As := [.ref aO, .int (xs (v4 + (1 : Int32)).toNatClampNeg), .int (xs (v4 + (2 : Int32)).toNatClampNeg), .ref aOUT]) (rest := []) ⟨hx, hb, hml, hown, hts⟩ (c_L_encode l hfl dC dI cI cL _ (xs (v4 + (1 : Int32)).toNatClampNeg) (xs (v4 + (2 : Int32)).toNatClampNeg) hN_O hN_P hN_PA hN_H hN_HA hN_V hN_S hN_W hN_D hN_Q hN_R hN_E hN_K hN_KA hN_C hN_CA hN_OUT q1131 hc) (cw_L_79 hts ⟨Nat.le_of_ble_eq_true rfl, Nat.le_of_ble_eq_true rfl⟩) ⟨zbT, zpT hP hK hZ hD hX (z_keep hA2 hS)⟩ rfl rfl hl.1 rfl (lv_room (Nat.le_of_ble_eq_true rfl)) d_L_law_271 ⟨hc1, hc2⟩) hS (fun q _ h => hFc q h) hFc (fun rv ws t H locs ht hvm hu hB hz1 hk1 hS => ?_)
  obtain ⟨hv, hN_H, hN_HA, hN_V, hN_S, hN_W, hN_D, hN_Q, hN_R, hN_E, hN_K, hN_KA, hN_C, hN_CA, hN_OUT, hfr⟩ := hu
  have hv := hv.symm
  subst hv
  obtain ⟨hP, -, hD1⟩ := hB
  rw [ht] at hP
  have hD := hD1.weaken (fun _ _ _ h => hFc _ h)
  have hN_H : zA ws 5 (aH, .inr (1, [.int H_mostSide, .ref aHA, .int q1131.2.1])) := hN_H
  have hN_HA : zA ws 6 (aHA, .inl (cI, HA_n, .inl q1131.2.2.1)) := hN_HA
  have hN_V : zA ws 7 (aV, .inr (2, [.ref aH, .int q1131.2.2.2.1, .int q1131.2.2.2.2.1, .int q1131.2.2.2.2.2.1, .int q1131.2.2.2.2.2.2.1, .int q1131.2.2.2.2.2.2.2.1])) := hN_V
  have hN_S : zA ws 8 (aS, .inr (3, [.ref aP, .ref aH, .ref aV, .ref aW, .ref aD, .ref aQ, .ref aR, .ref aE, .int q1131.2.2.2.2.2.2.2.2.1, .int q1131.2.2.2.2.2.2.2.2.2.1, .int q1131.2.2.2.2.2.2.2.2.2.2.1, .int q1131.2.2.2.2.2.2.2.2.2.2.2.1, .int q1131.2.2.2.2.2.2.2.2.2.2.2.2.1, .int q1131.2.2.2.2.2.2.2.2.2.2.2.2.2.1])) := hN_S
  have hN_W : zA ws 9 (aW, .inl (cI, W_n, .inl q1131.2.2.2.2.2.2.2.2.2.2.2.2.2.2.1)) := hN_W
  have hN_D : zA ws 10 (aD, .inl (cI, D_n, .inl q1131.2.2.2.2.2.2.2.2.2.2.2.2.2.2.2.1)) := hN_D
  have hN_Q : zA ws 11 (aQ, .inl (cI, Q_n, .inl q1131.2.2.2.2.2.2.2.2.2.2.2.2.2.2.2.2.1)) := hN_Q
  have hN_R : zA ws 12 (aR, .inl (cI, R_n, .inl q1131.2.2.2.2.2.2.2.2.2.2.2.2.2.2.2.2.2.1)) := hN_R
  have hN_E : zA ws 13 (aE, .inr (4, [.int q1131.2.2.2.2.2.2.2.2.2.2.2.2.2.2.2.2.2.2.1, .int q1131.2.2.2.2.2.2.2.2.2.2.2.2.2.2.2.2.2.2.2.1, .int q1131.2.2.2.2.2.2.2.2.2.2.2.2.2.2.2.2.2.2.2.2.1, .int q1131.2.2.2.2.2.2.2.2.2.2.2.2.2.2.2.2.2.2.2.2.2.1, .int q1131.2.2.2.2.2.2.2.2.2.2.2.2.2.2.2.2.2.2.2.2.2.2.1])) := hN_E
  have hN_K : zA ws 14 (aK, .inr (5, [.ref aKA, .int q1131.2.2.2.2.2.2.2.2.2.2.2.2.2.2.2.2.2.2.2.2.2.2.2.1])) := hN_K
  have hN_KA : zA ws 15 (aKA, .inl (cI, KA_n, .inl q1131.2.2.2.2.2.2.2.2.2.2.2.2.2.2.2.2.2.2.2.2.2.2.2.2.1)) := hN_KA
  have hN_C : zA ws 17 (aC, .inr (6, [.ref aCA, .int q1131.2.2.2.2.2.2.2.2.2.2.2.2.2.2.2.2.2.2.2.2.2.2.2.2.2.1, .int q1131.2.2.2.2.2.2.2.2.2.2.2.2.2.2.2.2.2.2.2.2.2.2.2.2.2.2.1])) := hN_C
  have hN_CA : zA ws 18 (aCA, .inl (cI, CA_n, .inl q1131.2.2.2.2.2.2.2.2.2.2.2.2.2.2.2.2.2.2.2.2.2.2.2.2.2.2.2.1)) := hN_CA
  have hN_OUT : zA ws 34 (aOUT, .inl (cL, OUT_n, .inr (.inl q1131.2.2.2.2.2.2.2.2.2.2.2.2.2.2.2.2.2.2.2.2.2.2.2.2.2.2.2.2))) := hN_OUT
  have hN_O := (hfr _ (by decide)).trans hN_O
  have hN_P := (hfr _ (by decide)).trans hN_P
  have hN_PA := (hfr _ (by decide)).trans hN_PA
  have hN_X := (hfr _ (by decide)).trans hN_X
  have hN_Xpicture := (hfr _ (by decide)).trans hN_Xpicture
  have hN_Xhalf := (hfr _ (by decide)).trans hN_Xhalf
  have hN_Xblocks := (hfr _ (by decide)).trans hN_Xblocks
  have hN_Xencoded := (hfr _ (by decide)).trans hN_Xencoded
  have hN_Xpile := (hfr _ (by decide)).trans hN_Xpile
  have hN_Xds := (hfr _ (by decide)).trans hN_Xds
  have hN_Xrs := (hfr _ (by decide)).trans hN_Xrs
  have hN_Xbest := (hfr _ (by decide)).trans hN_Xbest
  have hw := z_frC (by decide) hw hfr
  refine lv_istore (lv' := [(5, .int q1131.1), (0, .ref b), (1, .ref aO), (2, .ref aX), (3, .ref aOUT), (4, .int v4)]) hx hb d_L_law_274 hl (by decide) rfl (fun ls hl => ?_)
  refine lv_aload_n hx hb d_L_law_276 rfl (lv_at hl 3 rfl) ?_
  refine lv_aload_n hx hb d_L_law_277 rfl (lv_at hl 1 rfl) ?_
  refine lv_iload hx hb d_L_law_278 (lv_at hl 5 rfl) ?_
  refine lv_iconst (v := 1) hx hb d_L_law_280 (by decide) ?_
  refine lv_iadd hx hb d_L_law_281 ?_
  refine va_sld hx hb hXs hbl hbA hS hin1 d_L_law_282 ?_
  refine lv_aload_n hx hb d_L_law_283 rfl (lv_at hl 1 rfl) ?_
  refine lv_iload hx hb d_L_law_284 (lv_at hl 5 rfl) ?_
  refine lv_iconst (v := 2) hx hb d_L_law_286 (by decide) ?_
  refine lv_iadd hx hb d_L_law_287 ?_
  refine va_sld hx hb hXs hbl hbA hS hin2 d_L_law_288 ?_
  obtain ⟨q1132, hc, hf⟩ := z_b hf
  have hFc := z_free hD hS hA
  refine va_calli (va_runV (As := [.int (xs (v4 + (1 : Int32)).toNatClampNeg), .int (xs (v4 + (2 : Int32)).toNatClampNeg)]) (rest := []) ⟨hx, hb, hml, hown, hts⟩ (c_M_encode l dC dI cI cL _ (xs (v4 + (1 : Int32)).toNatClampNeg) (xs (v4 + (2 : Int32)).toNatClampNeg) hN_X hN_Xpicture hN_Xhalf hN_Xblocks hN_Xencoded hN_Xpile hN_Xds hN_Xrs hN_Xbest q1132 hc) (cw_L_82 hts ⟨Nat.le_of_ble_eq_true rfl, Nat.le_of_ble_eq_true rfl⟩) ⟨zbM, va_recv hK hP (ci := 7) rfl hN_X, (zpM hP hK hZ hD)⟩ rfl rfl hl.1 rfl (lv_room (Nat.le_of_ble_eq_true rfl)) d_L_law_289 ⟨hc1, hc2⟩) hS (fun q _ h => hFc q h) hFc (fun rv ws t H locs ht hvm hu hB hz1 hk1 hS => ?_)
  obtain ⟨hv, hN_X, hN_Xhalf, hN_Xblocks, hN_Xencoded, hN_Xpile, hN_Xds, hN_Xrs, hN_Xbest, hfr⟩ := hu
  subst hv
  obtain ⟨hP, -, hD1⟩ := hB
  rw [ht] at hP
  have hD := hD1.weaken (fun _ _ _ h => hFc _ h)
  have hN_X : zA ws 21 (aX, .inr (7, [.int q1132.2.1, .int X_side, .ref aXpicture, .ref aXhalf, .int q1132.2.2.1, .ref aXblocks, .int q1132.2.2.2.1, .int q1132.2.2.2.2.1, .ref aXencoded, .int X_fedMany, .ref aXfed, .int X_readAt, .int X_why, .int q1132.2.2.2.2.2.1, .int q1132.2.2.2.2.2.2.1, .ref aXpile, .int X_decoded, .ref aXnews, .ref aXolds, .ref aXhalves, .ref aXds, .ref aXrs, .ref aXbest, .long q1132.2.2.2.2.2.2.2.1])) := hN_X
  have hN_Xhalf : zA ws 23 (aXhalf, .inl (cI, Xhalf_n, .inl q1132.2.2.2.2.2.2.2.2.1)) := hN_Xhalf
  have hN_Xblocks : zA ws 24 (aXblocks, .inl (cI, Xblocks_n, .inl q1132.2.2.2.2.2.2.2.2.2.1)) := hN_Xblocks
  have hN_Xencoded : zA ws 25 (aXencoded, .inl (cI, Xencoded_n, .inl q1132.2.2.2.2.2.2.2.2.2.2.1)) := hN_Xencoded
  have hN_Xpile : zA ws 27 (aXpile, .inl (cI, Xpile_n, .inl q1132.2.2.2.2.2.2.2.2.2.2.2.1)) := hN_Xpile
  have hN_Xds : zA ws 31 (aXds, .inl (cI, Xds_n, .inl q1132.2.2.2.2.2.2.2.2.2.2.2.2.1)) := hN_Xds
  have hN_Xrs : zA ws 32 (aXrs, .inl (cI, Xrs_n, .inl q1132.2.2.2.2.2.2.2.2.2.2.2.2.2.1)) := hN_Xrs
  have hN_Xbest : zA ws 33 (aXbest, .inl (cI, Xbest_n, .inl q1132.2.2.2.2.2.2.2.2.2.2.2.2.2.2)) := hN_Xbest
  have hN_O := (hfr _ (by decide)).trans hN_O
  have hN_P := (hfr _ (by decide)).trans hN_P
  have hN_PA := (hfr _ (by decide)).trans hN_PA
  have hN_H := (hfr _ (by decide)).trans hN_H
  have hN_HA := (hfr _ (by decide)).trans hN_HA
  have hN_V := (hfr _ (by decide)).trans hN_V
  have hN_S := (hfr _ (by decide)).trans hN_S
  have hN_W := (hfr _ (by decide)).trans hN_W
  have hN_D := (hfr _ (by decide)).trans hN_D
  have hN_Q := (hfr _ (by decide)).trans hN_Q
  have hN_R := (hfr _ (by decide)).trans hN_R
  have hN_E := (hfr _ (by decide)).trans hN_E
  have hN_K := (hfr _ (by decide)).trans hN_K
  have hN_KA := (hfr _ (by decide)).trans hN_KA
  have hN_C := (hfr _ (by decide)).trans hN_C
  have hN_CA := (hfr _ (by decide)).trans hN_CA
  have hN_Xpicture := (hfr _ (by decide)).trans hN_Xpicture
  have hN_OUT := (hfr _ (by decide)).trans hN_OUT
  have hw := z_frC (by decide) hw hfr
  refine lv_istore (lv' := [(6, .int q1132.1), (5, .int q1131.1), (0, .ref b), (1, .ref aO), (2, .ref aX), (3, .ref aOUT), (4, .int v4)]) hx hb d_L_law_292 hl (by decide) rfl (fun ls hl => ?_)
  refine lv_aload_n hx hb d_L_law_294 rfl (lv_at hl 4 rfl) ?_
  obtain ⟨q1133, hc, hf⟩ := z_b hf
  refine vp_callSi (z_cr (va_runV (As := []) (rest := []) ⟨hx, hb, hml, hown, hts⟩ (c_M_thrown l dC dI cI cL hN_X q1133 hc) (cw_L_72 hts ⟨Nat.le_of_ble_eq_true rfl, Nat.le_of_ble_eq_true rfl⟩) ⟨zbR, va_recv hK hP (ci := 7) rfl hN_X, (zpR hP hK hZ)⟩ rfl rfl hl.1 rfl (lv_room (Nat.le_of_ble_eq_true rfl)) d_L_law_295 ⟨hc1, hc2⟩)) (fun r1134 hv => ?_)
  have hv := hv.symm
  subst hv
  refine lv_iload hx hb d_L_law_298 (lv_at hl 1 rfl) ?_
  refine lv_icmp_eq (tgt := 305) hx hb d_L_law_300 (by decide) (fun hc => ?_) (fun hc => ?_)
  · have hf := z_t hc hf
    refine lv_iload hx hb d_L_law_305 (lv_at hl 1 rfl) ?_
    refine lv_if_ne (tgt := 322) hx hb d_L_law_307 (by decide) (fun hc => ?_) (fun hc => ?_)
    · have hf := z_f hc hf
      refine lv_goto (tgt := 974) hx hb d_L_law_322 (by decide) ?_
      obtain rfl := Option.some.inj hf
      exact kt _ _ _ ls _ _ (Nat.le_refl _) (Nat.le_refl _) (lv_sub hl [2, 3, 4, 5, 6] rfl) hP hD hS hN_H hN_HA hN_V hN_S hN_W hN_D hN_Q hN_R hN_E hN_K hN_KA hN_C hN_CA hN_X hN_Xhalf hN_Xblocks hN_Xencoded hN_Xpile hN_Xds hN_Xrs hN_Xbest hN_OUT hw
    · have hf := z_t hc hf
      refine lv_aload_n hx hb d_L_law_310 rfl (lv_at hl 5 rfl) ?_
      refine lv_iconst (v := 0) hx hb d_L_law_311 (by decide) ?_
      obtain ⟨hin, hf⟩ := z_no hf
      refine va_lald hx hb hK hP _ 1 hN_OUT rfl hin d_L_law_312 ?_
      refine lv_iload hx hb d_L_law_313 (lv_at hl 0 rfl) ?_
      refine lv_i2l hx hb d_L_law_315 rfl ?_
      refine W.lcmp hx hb d_L_law_316 ?_
      refine lv_if_eq (tgt := 322) hx hb d_L_law_317 (by decide) (fun hc => ?_) (fun hc => ?_)
      · have hf := z_t hc hf
        refine lv_goto (tgt := 974) hx hb d_L_law_322 (by decide) ?_
        obtain rfl := Option.some.inj hf
        exact kt _ _ _ ls _ _ (Nat.le_refl _) (Nat.le_refl _) (lv_sub hl [2, 3, 4, 5, 6] rfl) hP hD hS hN_H hN_HA hN_V hN_S hN_W hN_D hN_Q hN_R hN_E hN_K hN_KA hN_C hN_CA hN_X hN_Xhalf hN_Xblocks hN_Xencoded hN_Xpile hN_Xds hN_Xrs hN_Xbest hN_OUT hw
      · have hf := z_f hc hf
        refine lv_iconst (v := 0) hx hb d_L_law_320 (by decide) ?_
        cases hf
  · have hf := z_f hc hf
    refine lv_iconst (v := 0) hx hb d_L_law_303 (by decide) ?_
    cases hf
def f_LW_3 (a1 : Int32) (a2 : Int32) (K_count : Int32) (KA_n : Nat) (KA_f : Nat → Int32) (X_code : Int32) (X_many : Int32) (Xblocks_n : Nat) (Xblocks_f : Nat → Int32) (OUT_n : Nat) (OUT_f : Nat → Int64) : Option (Int32 × (Nat → Int64)) := (f_L_block a1 a2 K_count KA_n KA_f OUT_n OUT_f).bind (fun q1135 => (f_M_block a1 a2 X_code X_many Xblocks_n Xblocks_f).bind (fun q1136 => (f_M_thrown q1136.2).bind (fun q1137 => if q1137 = q1135.1 then (if q1135.1 = 0 then (if (0 : Int32) < 0 ∨ OUT_n ≤ (0 : Int32).toNatClampNeg then none else (if (lg_cmp (q1135.2 (0 : Int32).toNatClampNeg) q1136.1.toInt64) = 0 then (some (q1136.2, q1135.2)) else (none))) else (some (q1136.2, q1135.2))) else (none))))
set_option maxHeartbeats 4000000 in
set_option maxRecDepth 100000 in
theorem lc_3 {p : Program} {l : Launch} {e : Env} {s : State} {m : MethodId} {below : List Frame} {meth : Method} {c : Code} {b L : Nat} {xs : Nat → Int32} {dC : Nat → ClassId} {dI : Nat → Nat → Nat} {cI cL : ClassId} {A : Nat → Prop} {Q : State → Prop} {ws0 : va_W} {H : Heap} {locs : List Loc} {cells slots : Nat} {ls : Array Slot} {v4 : Int32} {aO aP aN aH aV aS aK aT aC aI aKA aX aXpicture aXhalf aXblocks aXencoded aXfed aXpile aXnews aXolds aXhalves aXds aXrs aXbest aOUT : Nat} {O_side : Int32} {K_count : Int32} {KA_n : Nat} {KA_f : Nat → Int32} {X_code : Int32} {X_side : Int32} {X_many : Int32} {X_found : Int32} {X_encodedBits : Int32} {X_fedMany : Int32} {X_readAt : Int32} {X_why : Int32} {X_tried : Int32} {X_waiting : Int32} {X_decoded : Int32} {X_bestError : Int64} {Xblocks_n : Nat} {Xblocks_f : Nat → Int32} {OUT_n : Nat} {OUT_f : Nat → Int64} (fx : lwFix p l s m c b L xs dC dI cI cL A) (hc1 : cells + 1 ≤ room_1.cells) (hc2 : slots + 6 ≤ room_1.slots) (hl : lv_has ls 8 [(0, .ref b), (1, .ref aO), (2, .ref aX), (3, .ref aOUT), (4, .int v4)]) (hP : va_P (dC, dI) classes ws0 H) (hD : va_D A ws0) (hS : va_S A s.heap H locs) (hN_O : zA ws0 0 (aO, .inr (0, [.int O_side, .ref aP, .ref aN, .ref aH, .ref aV, .ref aS, .ref aK, .ref aT, .ref aC, .ref aI]))) (hN_K : zA ws0 14 (aK, .inr (5, [.ref aKA, .int K_count]))) (hN_KA : zA ws0 15 (aKA, .inl (cI, KA_n, .inl KA_f))) (hN_X : zA ws0 21 (aX, .inr (7, [.int X_code, .int X_side, .ref aXpicture, .ref aXhalf, .int X_many, .ref aXblocks, .int X_found, .int X_encodedBits, .ref aXencoded, .int X_fedMany, .ref aXfed, .int X_readAt, .int X_why, .int X_tried, .int X_waiting, .ref aXpile, .int X_decoded, .ref aXnews, .ref aXolds, .ref aXhalves, .ref aXds, .ref aXrs, .ref aXbest, .long X_bestError]))) (hN_Xblocks : zA ws0 24 (aXblocks, .inl (cI, Xblocks_n, .inl Xblocks_f))) (hN_OUT : zA ws0 34 (aOUT, .inl (cL, OUT_n, .inr (.inl OUT_f)))) (hin1 : vp_in (v4 + (1 : Int32)) L) (hin2 : vp_in (v4 + (2 : Int32)) L) (r : Int32 × (Nat → Int64)) (hf : f_LW_3 (xs (v4 + (1 : Int32)).toNatClampNeg) (xs (v4 + (2 : Int32)).toNatClampNeg) K_count KA_n KA_f X_code X_many Xblocks_n Xblocks_f OUT_n OUT_f = some r) (kt : ∀ (ws : va_W) (H : Heap) (locs : List Loc) (ls : Array Slot) (ce sl : Nat), ce ≤ cells + 1 → sl ≤ slots + 6 → lv_has ls 8 [(0, .ref b), (1, .ref aO), (2, .ref aX), (3, .ref aOUT), (4, .int v4)] → va_P (dC, dI) classes ws H → va_D A ws → va_S A s.heap H locs → zA ws 21 (aX, .inr (7, [.int r.1, .int X_side, .ref aXpicture, .ref aXhalf, .int X_many, .ref aXblocks, .int X_found, .int X_encodedBits, .ref aXencoded, .int X_fedMany, .ref aXfed, .int X_readAt, .int X_why, .int X_tried, .int X_waiting, .ref aXpile, .int X_decoded, .ref aXnews, .ref aXolds, .ref aXhalves, .ref aXds, .ref aXrs, .ref aXbest, .long X_bestError])) → zA ws 34 (aOUT, .inl (cL, OUT_n, .inr (.inl r.2))) → (∀ (j : Nat), j ∉ ([21, 34] : List Nat) → ws[j]? = ws0[j]?) → W p l e room_1 s m #[Value.ref b] below meth c H locs ce sl Q (F0 m 974 ls [])) : W p l e room_1 s m #[Value.ref b] below meth c H locs cells slots Q (F0 m 325 ls []) := by
  obtain ⟨hfl, hx, hb, hml, hown, hts, hK, hZ, hX, hXs, hbl, hbA, hA, hA2⟩ := fx
  have hc10 : cells ≤ room_1.cells := Nat.le_of_succ_le hc1
  have hc20 : slots ≤ room_1.slots := Nat.le_trans (Nat.le_add_right _ _) hc2
  have hw : ∀ (j : Nat), j ∉ ([21, 34] : List Nat) → ws0[j]? = ws0[j]? := fun _ _ => rfl
  unfold f_LW_3 at hf
  refine lv_aload_n hx hb d_L_law_325 rfl (lv_at hl 1 rfl) ?_
  refine lv_aload_n hx hb d_L_law_326 rfl (lv_at hl 0 rfl) ?_
  refine lv_iload hx hb d_L_law_327 (lv_at hl 4 rfl) ?_
  refine lv_iconst (v := 1) hx hb d_L_law_329 (by decide) ?_
  refine lv_iadd hx hb d_L_law_330 ?_
  refine va_sld hx hb hXs hbl hbA hS hin1 d_L_law_331 ?_
  refine lv_aload_n hx hb d_L_law_332 rfl (lv_at hl 0 rfl) ?_
  refine lv_iload hx hb d_L_law_333 (lv_at hl 4 rfl) ?_
  refine lv_iconst (v := 2) hx hb d_L_law_335 (by decide) ?_
  refine lv_iadd hx hb d_L_law_336 ?_
  refine va_sld hx hb hXs hbl hbA hS hin2 d_L_law_337 ?_
  refine lv_aload_n hx hb d_L_law_338 rfl (lv_at hl 3 rfl) ?_
  obtain ⟨q1135, hc, hf⟩ := z_b hf
  have hFc := z_free hD hS hA
  refine va_calli (z_runSW (As := [.ref aO, .int (xs (v4 + (1 : Int32)).toNatClampNeg), .int (xs (v4 + (2 : Int32)).toNatClampNeg), .ref aOUT]) (rest := []) ⟨hx, hb, hml, hown, hts⟩ (c_L_block l hfl dC dI cI cL _ (xs (v4 + (1 : Int32)).toNatClampNeg) (xs (v4 + (2 : Int32)).toNatClampNeg) hN_O hN_K hN_KA hN_OUT q1135 hc) (cw_L_83 hts ⟨Nat.le_of_ble_eq_true rfl, Nat.le_of_ble_eq_true rfl⟩) ⟨zbT, zpT hP hK hZ hD hX (z_keep hA2 hS)⟩ rfl rfl hl.1 rfl (lv_room (Nat.le_of_ble_eq_true rfl)) d_L_law_339 ⟨hc1, hc2⟩) hS (fun q _ h => hFc q h) hFc (fun rv ws t H locs ht hvm hu hB hz1 hk1 hS => ?_)
  obtain ⟨hv, hN_OUT, hfr⟩ := hu
  have hv := hv.symm
  subst hv
  obtain ⟨hP, -, hD1⟩ := hB
  rw [ht] at hP
  have hD := hD1.weaken (fun _ _ _ h => hFc _ h)
  have hN_OUT : zA ws 34 (aOUT, .inl (cL, OUT_n, .inr (.inl q1135.2))) := hN_OUT
  have hN_O := (hfr _ (by decide)).trans hN_O
  have hN_K := (hfr _ (by decide)).trans hN_K
  have hN_KA := (hfr _ (by decide)).trans hN_KA
  have hN_X := (hfr _ (by decide)).trans hN_X
  have hN_Xblocks := (hfr _ (by decide)).trans hN_Xblocks
  have hw := z_frC (by decide) hw hfr
  refine lv_istore (lv' := [(5, .int q1135.1), (0, .ref b), (1, .ref aO), (2, .ref aX), (3, .ref aOUT), (4, .int v4)]) hx hb d_L_law_342 hl (by decide) rfl (fun ls hl => ?_)
  refine lv_aload_n hx hb d_L_law_344 rfl (lv_at hl 3 rfl) ?_
  refine lv_aload_n hx hb d_L_law_345 rfl (lv_at hl 1 rfl) ?_
  refine lv_iload hx hb d_L_law_346 (lv_at hl 5 rfl) ?_
  refine lv_iconst (v := 1) hx hb d_L_law_348 (by decide) ?_
  refine lv_iadd hx hb d_L_law_349 ?_
  refine va_sld hx hb hXs hbl hbA hS hin1 d_L_law_350 ?_
  refine lv_aload_n hx hb d_L_law_351 rfl (lv_at hl 1 rfl) ?_
  refine lv_iload hx hb d_L_law_352 (lv_at hl 5 rfl) ?_
  refine lv_iconst (v := 2) hx hb d_L_law_354 (by decide) ?_
  refine lv_iadd hx hb d_L_law_355 ?_
  refine va_sld hx hb hXs hbl hbA hS hin2 d_L_law_356 ?_
  obtain ⟨q1136, hc, hf⟩ := z_b hf
  have hFc := z_free hD hS hA
  refine va_calli (va_runV (As := [.int (xs (v4 + (1 : Int32)).toNatClampNeg), .int (xs (v4 + (2 : Int32)).toNatClampNeg)]) (rest := []) ⟨hx, hb, hml, hown, hts⟩ (c_M_block l dC dI cI cL _ (xs (v4 + (1 : Int32)).toNatClampNeg) (xs (v4 + (2 : Int32)).toNatClampNeg) hN_X hN_Xblocks q1136 hc) (cw_L_85 hts ⟨Nat.le_of_ble_eq_true rfl, Nat.le_of_ble_eq_true rfl⟩) ⟨zbM, va_recv hK hP (ci := 7) rfl hN_X, (zpM hP hK hZ hD)⟩ rfl rfl hl.1 rfl (lv_room (Nat.le_of_ble_eq_true rfl)) d_L_law_357 ⟨hc1, hc2⟩) hS (fun q _ h => hFc q h) hFc (fun rv ws t H locs ht hvm hu hB hz1 hk1 hS => ?_)
  obtain ⟨hv, hN_X, hfr⟩ := hu
  subst hv
  obtain ⟨hP, -, hD1⟩ := hB
  rw [ht] at hP
  have hD := hD1.weaken (fun _ _ _ h => hFc _ h)
  have hN_X : zA ws 21 (aX, .inr (7, [.int q1136.2, .int X_side, .ref aXpicture, .ref aXhalf, .int X_many, .ref aXblocks, .int X_found, .int X_encodedBits, .ref aXencoded, .int X_fedMany, .ref aXfed, .int X_readAt, .int X_why, .int X_tried, .int X_waiting, .ref aXpile, .int X_decoded, .ref aXnews, .ref aXolds, .ref aXhalves, .ref aXds, .ref aXrs, .ref aXbest, .long X_bestError])) := hN_X
  have hN_O := (hfr _ (by decide)).trans hN_O
  have hN_K := (hfr _ (by decide)).trans hN_K
  have hN_KA := (hfr _ (by decide)).trans hN_KA
  have hN_Xblocks := (hfr _ (by decide)).trans hN_Xblocks
  have hN_OUT := (hfr _ (by decide)).trans hN_OUT
  have hw := z_frC (by decide) hw hfr
  refine lv_istore (lv' := [(6, .int q1136.1), (5, .int q1135.1), (0, .ref b), (1, .ref aO), (2, .ref aX), (3, .ref aOUT), (4, .int v4)]) hx hb d_L_law_360 hl (by decide) rfl (fun ls hl => ?_)
  refine lv_aload_n hx hb d_L_law_362 rfl (lv_at hl 4 rfl) ?_
  obtain ⟨q1137, hc, hf⟩ := z_b hf
  refine vp_callSi (z_cr (va_runV (As := []) (rest := []) ⟨hx, hb, hml, hown, hts⟩ (c_M_thrown l dC dI cI cL hN_X q1137 hc) (cw_L_72 hts ⟨Nat.le_of_ble_eq_true rfl, Nat.le_of_ble_eq_true rfl⟩) ⟨zbR, va_recv hK hP (ci := 7) rfl hN_X, (zpR hP hK hZ)⟩ rfl rfl hl.1 rfl (lv_room (Nat.le_of_ble_eq_true rfl)) d_L_law_363 ⟨hc1, hc2⟩)) (fun r1138 hv => ?_)
  have hv := hv.symm
  subst hv
  refine lv_iload hx hb d_L_law_366 (lv_at hl 1 rfl) ?_
  refine lv_icmp_eq (tgt := 373) hx hb d_L_law_368 (by decide) (fun hc => ?_) (fun hc => ?_)
  · have hf := z_t hc hf
    refine lv_iload hx hb d_L_law_373 (lv_at hl 1 rfl) ?_
    refine lv_if_ne (tgt := 390) hx hb d_L_law_375 (by decide) (fun hc => ?_) (fun hc => ?_)
    · have hf := z_f hc hf
      refine lv_goto (tgt := 974) hx hb d_L_law_390 (by decide) ?_
      obtain rfl := Option.some.inj hf
      exact kt _ _ _ ls _ _ (Nat.le_refl _) (Nat.le_refl _) (lv_sub hl [2, 3, 4, 5, 6] rfl) hP hD hS hN_X hN_OUT hw
    · have hf := z_t hc hf
      refine lv_aload_n hx hb d_L_law_378 rfl (lv_at hl 5 rfl) ?_
      refine lv_iconst (v := 0) hx hb d_L_law_379 (by decide) ?_
      obtain ⟨hin, hf⟩ := z_no hf
      refine va_lald hx hb hK hP _ 1 hN_OUT rfl hin d_L_law_380 ?_
      refine lv_iload hx hb d_L_law_381 (lv_at hl 0 rfl) ?_
      refine lv_i2l hx hb d_L_law_383 rfl ?_
      refine W.lcmp hx hb d_L_law_384 ?_
      refine lv_if_eq (tgt := 390) hx hb d_L_law_385 (by decide) (fun hc => ?_) (fun hc => ?_)
      · have hf := z_t hc hf
        refine lv_goto (tgt := 974) hx hb d_L_law_390 (by decide) ?_
        obtain rfl := Option.some.inj hf
        exact kt _ _ _ ls _ _ (Nat.le_refl _) (Nat.le_refl _) (lv_sub hl [2, 3, 4, 5, 6] rfl) hP hD hS hN_X hN_OUT hw
      · have hf := z_f hc hf
        refine lv_iconst (v := 0) hx hb d_L_law_388 (by decide) ?_
        cases hf
  · have hf := z_f hc hf
    refine lv_iconst (v := 0) hx hb d_L_law_371 (by decide) ?_
    cases hf
def f_LW_4 (a1 : Int32) (C_filled : Int32) (CA_n : Nat) (CA_f : Nat → Int32) (X_code : Int32) (X_encodedBits : Int32) (Xencoded_n : Nat) (Xencoded_f : Nat → Int32) (OUT_n : Nat) (OUT_f : Nat → Int64) : Option (Int32 × (Nat → Int64)) := (f_L_byteAt a1 C_filled CA_n CA_f OUT_n OUT_f).bind (fun q1139 => (f_M_byteAt a1 X_code X_encodedBits Xencoded_n Xencoded_f).bind (fun q1140 => (f_M_thrown q1140.2).bind (fun q1141 => if q1141 = q1139.1 then (if q1139.1 = 0 then (if (0 : Int32) < 0 ∨ OUT_n ≤ (0 : Int32).toNatClampNeg then none else (if (lg_cmp (q1139.2 (0 : Int32).toNatClampNeg) q1140.1.toInt64) = 0 then (some (q1140.2, q1139.2)) else (none))) else (some (q1140.2, q1139.2))) else (none))))
set_option maxHeartbeats 4000000 in
set_option maxRecDepth 100000 in
theorem lc_4 {p : Program} {l : Launch} {e : Env} {s : State} {m : MethodId} {below : List Frame} {meth : Method} {c : Code} {b L : Nat} {xs : Nat → Int32} {dC : Nat → ClassId} {dI : Nat → Nat → Nat} {cI cL : ClassId} {A : Nat → Prop} {Q : State → Prop} {ws0 : va_W} {H : Heap} {locs : List Loc} {cells slots : Nat} {ls : Array Slot} {v4 : Int32} {aO aP aN aH aV aS aK aT aC aI aCA aX aXpicture aXhalf aXblocks aXencoded aXfed aXpile aXnews aXolds aXhalves aXds aXrs aXbest aOUT : Nat} {O_side : Int32} {C_filled : Int32} {C_taken : Int32} {CA_n : Nat} {CA_f : Nat → Int32} {X_code : Int32} {X_side : Int32} {X_many : Int32} {X_found : Int32} {X_encodedBits : Int32} {X_fedMany : Int32} {X_readAt : Int32} {X_why : Int32} {X_tried : Int32} {X_waiting : Int32} {X_decoded : Int32} {X_bestError : Int64} {Xencoded_n : Nat} {Xencoded_f : Nat → Int32} {OUT_n : Nat} {OUT_f : Nat → Int64} (fx : lwFix p l s m c b L xs dC dI cI cL A) (hc1 : cells + 1 ≤ room_1.cells) (hc2 : slots + 6 ≤ room_1.slots) (hl : lv_has ls 8 [(0, .ref b), (1, .ref aO), (2, .ref aX), (3, .ref aOUT), (4, .int v4)]) (hP : va_P (dC, dI) classes ws0 H) (hD : va_D A ws0) (hS : va_S A s.heap H locs) (hN_O : zA ws0 0 (aO, .inr (0, [.int O_side, .ref aP, .ref aN, .ref aH, .ref aV, .ref aS, .ref aK, .ref aT, .ref aC, .ref aI]))) (hN_C : zA ws0 17 (aC, .inr (6, [.ref aCA, .int C_filled, .int C_taken]))) (hN_CA : zA ws0 18 (aCA, .inl (cI, CA_n, .inl CA_f))) (hN_X : zA ws0 21 (aX, .inr (7, [.int X_code, .int X_side, .ref aXpicture, .ref aXhalf, .int X_many, .ref aXblocks, .int X_found, .int X_encodedBits, .ref aXencoded, .int X_fedMany, .ref aXfed, .int X_readAt, .int X_why, .int X_tried, .int X_waiting, .ref aXpile, .int X_decoded, .ref aXnews, .ref aXolds, .ref aXhalves, .ref aXds, .ref aXrs, .ref aXbest, .long X_bestError]))) (hN_Xencoded : zA ws0 25 (aXencoded, .inl (cI, Xencoded_n, .inl Xencoded_f))) (hN_OUT : zA ws0 34 (aOUT, .inl (cL, OUT_n, .inr (.inl OUT_f)))) (hin1 : vp_in (v4 + (1 : Int32)) L) (r : Int32 × (Nat → Int64)) (hf : f_LW_4 (xs (v4 + (1 : Int32)).toNatClampNeg) C_filled CA_n CA_f X_code X_encodedBits Xencoded_n Xencoded_f OUT_n OUT_f = some r) (kt : ∀ (ws : va_W) (H : Heap) (locs : List Loc) (ls : Array Slot) (ce sl : Nat), ce ≤ cells + 1 → sl ≤ slots + 6 → lv_has ls 8 [(0, .ref b), (1, .ref aO), (2, .ref aX), (3, .ref aOUT), (4, .int v4)] → va_P (dC, dI) classes ws H → va_D A ws → va_S A s.heap H locs → zA ws 21 (aX, .inr (7, [.int r.1, .int X_side, .ref aXpicture, .ref aXhalf, .int X_many, .ref aXblocks, .int X_found, .int X_encodedBits, .ref aXencoded, .int X_fedMany, .ref aXfed, .int X_readAt, .int X_why, .int X_tried, .int X_waiting, .ref aXpile, .int X_decoded, .ref aXnews, .ref aXolds, .ref aXhalves, .ref aXds, .ref aXrs, .ref aXbest, .long X_bestError])) → zA ws 34 (aOUT, .inl (cL, OUT_n, .inr (.inl r.2))) → (∀ (j : Nat), j ∉ ([21, 34] : List Nat) → ws[j]? = ws0[j]?) → W p l e room_1 s m #[Value.ref b] below meth c H locs ce sl Q (F0 m 974 ls [])) : W p l e room_1 s m #[Value.ref b] below meth c H locs cells slots Q (F0 m 393 ls []) := by
  obtain ⟨hfl, hx, hb, hml, hown, hts, hK, hZ, hX, hXs, hbl, hbA, hA, hA2⟩ := fx
  have hc10 : cells ≤ room_1.cells := Nat.le_of_succ_le hc1
  have hc20 : slots ≤ room_1.slots := Nat.le_trans (Nat.le_add_right _ _) hc2
  have hw : ∀ (j : Nat), j ∉ ([21, 34] : List Nat) → ws0[j]? = ws0[j]? := fun _ _ => rfl
  unfold f_LW_4 at hf
  refine lv_aload_n hx hb d_L_law_393 rfl (lv_at hl 1 rfl) ?_
  refine lv_aload_n hx hb d_L_law_394 rfl (lv_at hl 0 rfl) ?_
  refine lv_iload hx hb d_L_law_395 (lv_at hl 4 rfl) ?_
  refine lv_iconst (v := 1) hx hb d_L_law_397 (by decide) ?_
  refine lv_iadd hx hb d_L_law_398 ?_
  refine va_sld hx hb hXs hbl hbA hS hin1 d_L_law_399 ?_
  refine lv_aload_n hx hb d_L_law_400 rfl (lv_at hl 3 rfl) ?_
  obtain ⟨q1139, hc, hf⟩ := z_b hf
  have hFc := z_free hD hS hA
  refine va_calli (z_runSW (As := [.ref aO, .int (xs (v4 + (1 : Int32)).toNatClampNeg), .ref aOUT]) (rest := []) ⟨hx, hb, hml, hown, hts⟩ (c_L_byteAt l hfl dC dI cI cL _ (xs (v4 + (1 : Int32)).toNatClampNeg) hN_O hN_C hN_CA hN_OUT q1139 hc) (cw_L_86 hts ⟨Nat.le_of_ble_eq_true rfl, Nat.le_of_ble_eq_true rfl⟩) ⟨zbT, zpT hP hK hZ hD hX (z_keep hA2 hS)⟩ rfl rfl hl.1 rfl (lv_room (Nat.le_of_ble_eq_true rfl)) d_L_law_401 ⟨hc1, hc2⟩) hS (fun q _ h => hFc q h) hFc (fun rv ws t H locs ht hvm hu hB hz1 hk1 hS => ?_)
  obtain ⟨hv, hN_OUT, hfr⟩ := hu
  have hv := hv.symm
  subst hv
  obtain ⟨hP, -, hD1⟩ := hB
  rw [ht] at hP
  have hD := hD1.weaken (fun _ _ _ h => hFc _ h)
  have hN_OUT : zA ws 34 (aOUT, .inl (cL, OUT_n, .inr (.inl q1139.2))) := hN_OUT
  have hN_O := (hfr _ (by decide)).trans hN_O
  have hN_C := (hfr _ (by decide)).trans hN_C
  have hN_CA := (hfr _ (by decide)).trans hN_CA
  have hN_X := (hfr _ (by decide)).trans hN_X
  have hN_Xencoded := (hfr _ (by decide)).trans hN_Xencoded
  have hw := z_frC (by decide) hw hfr
  refine lv_istore (lv' := [(5, .int q1139.1), (0, .ref b), (1, .ref aO), (2, .ref aX), (3, .ref aOUT), (4, .int v4)]) hx hb d_L_law_404 hl (by decide) rfl (fun ls hl => ?_)
  refine lv_aload_n hx hb d_L_law_406 rfl (lv_at hl 3 rfl) ?_
  refine lv_aload_n hx hb d_L_law_407 rfl (lv_at hl 1 rfl) ?_
  refine lv_iload hx hb d_L_law_408 (lv_at hl 5 rfl) ?_
  refine lv_iconst (v := 1) hx hb d_L_law_410 (by decide) ?_
  refine lv_iadd hx hb d_L_law_411 ?_
  refine va_sld hx hb hXs hbl hbA hS hin1 d_L_law_412 ?_
  obtain ⟨q1140, hc, hf⟩ := z_b hf
  have hFc := z_free hD hS hA
  refine va_calli (va_runV (As := [.int (xs (v4 + (1 : Int32)).toNatClampNeg)]) (rest := []) ⟨hx, hb, hml, hown, hts⟩ (c_M_byteAt l dC dI cI cL _ (xs (v4 + (1 : Int32)).toNatClampNeg) hN_X hN_Xencoded q1140 hc) (cw_L_89 hts ⟨Nat.le_of_ble_eq_true rfl, Nat.le_of_ble_eq_true rfl⟩) ⟨zbM, va_recv hK hP (ci := 7) rfl hN_X, (zpM hP hK hZ hD)⟩ rfl rfl hl.1 rfl (lv_room (Nat.le_of_ble_eq_true rfl)) d_L_law_413 ⟨hc1, hc2⟩) hS (fun q _ h => hFc q h) hFc (fun rv ws t H locs ht hvm hu hB hz1 hk1 hS => ?_)
  obtain ⟨hv, hN_X, hfr⟩ := hu
  subst hv
  obtain ⟨hP, -, hD1⟩ := hB
  rw [ht] at hP
  have hD := hD1.weaken (fun _ _ _ h => hFc _ h)
  have hN_X : zA ws 21 (aX, .inr (7, [.int q1140.2, .int X_side, .ref aXpicture, .ref aXhalf, .int X_many, .ref aXblocks, .int X_found, .int X_encodedBits, .ref aXencoded, .int X_fedMany, .ref aXfed, .int X_readAt, .int X_why, .int X_tried, .int X_waiting, .ref aXpile, .int X_decoded, .ref aXnews, .ref aXolds, .ref aXhalves, .ref aXds, .ref aXrs, .ref aXbest, .long X_bestError])) := hN_X
  have hN_O := (hfr _ (by decide)).trans hN_O
  have hN_C := (hfr _ (by decide)).trans hN_C
  have hN_CA := (hfr _ (by decide)).trans hN_CA
  have hN_Xencoded := (hfr _ (by decide)).trans hN_Xencoded
  have hN_OUT := (hfr _ (by decide)).trans hN_OUT
  have hw := z_frC (by decide) hw hfr
  refine lv_istore (lv' := [(6, .int q1140.1), (5, .int q1139.1), (0, .ref b), (1, .ref aO), (2, .ref aX), (3, .ref aOUT), (4, .int v4)]) hx hb d_L_law_416 hl (by decide) rfl (fun ls hl => ?_)
  refine lv_aload_n hx hb d_L_law_418 rfl (lv_at hl 4 rfl) ?_
  obtain ⟨q1141, hc, hf⟩ := z_b hf
  refine vp_callSi (z_cr (va_runV (As := []) (rest := []) ⟨hx, hb, hml, hown, hts⟩ (c_M_thrown l dC dI cI cL hN_X q1141 hc) (cw_L_72 hts ⟨Nat.le_of_ble_eq_true rfl, Nat.le_of_ble_eq_true rfl⟩) ⟨zbR, va_recv hK hP (ci := 7) rfl hN_X, (zpR hP hK hZ)⟩ rfl rfl hl.1 rfl (lv_room (Nat.le_of_ble_eq_true rfl)) d_L_law_419 ⟨hc1, hc2⟩)) (fun r1142 hv => ?_)
  have hv := hv.symm
  subst hv
  refine lv_iload hx hb d_L_law_422 (lv_at hl 1 rfl) ?_
  refine lv_icmp_eq (tgt := 429) hx hb d_L_law_424 (by decide) (fun hc => ?_) (fun hc => ?_)
  · have hf := z_t hc hf
    refine lv_iload hx hb d_L_law_429 (lv_at hl 1 rfl) ?_
    refine lv_if_ne (tgt := 446) hx hb d_L_law_431 (by decide) (fun hc => ?_) (fun hc => ?_)
    · have hf := z_f hc hf
      refine lv_goto (tgt := 974) hx hb d_L_law_446 (by decide) ?_
      obtain rfl := Option.some.inj hf
      exact kt _ _ _ ls _ _ (Nat.le_refl _) (Nat.le_refl _) (lv_sub hl [2, 3, 4, 5, 6] rfl) hP hD hS hN_X hN_OUT hw
    · have hf := z_t hc hf
      refine lv_aload_n hx hb d_L_law_434 rfl (lv_at hl 5 rfl) ?_
      refine lv_iconst (v := 0) hx hb d_L_law_435 (by decide) ?_
      obtain ⟨hin, hf⟩ := z_no hf
      refine va_lald hx hb hK hP _ 1 hN_OUT rfl hin d_L_law_436 ?_
      refine lv_iload hx hb d_L_law_437 (lv_at hl 0 rfl) ?_
      refine lv_i2l hx hb d_L_law_439 rfl ?_
      refine W.lcmp hx hb d_L_law_440 ?_
      refine lv_if_eq (tgt := 446) hx hb d_L_law_441 (by decide) (fun hc => ?_) (fun hc => ?_)
      · have hf := z_t hc hf
        refine lv_goto (tgt := 974) hx hb d_L_law_446 (by decide) ?_
        obtain rfl := Option.some.inj hf
        exact kt _ _ _ ls _ _ (Nat.le_refl _) (Nat.le_refl _) (lv_sub hl [2, 3, 4, 5, 6] rfl) hP hD hS hN_X hN_OUT hw
      · have hf := z_f hc hf
        refine lv_iconst (v := 0) hx hb d_L_law_444 (by decide) ?_
        cases hf
  · have hf := z_f hc hf
    refine lv_iconst (v := 0) hx hb d_L_law_427 (by decide) ?_
    cases hf
