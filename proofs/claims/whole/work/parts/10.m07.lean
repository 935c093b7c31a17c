def f_S_contrastWanted_37 (p1 : Int64) (S_count : Int32) (W_n : Nat) (W_f : Nat → Int32) (D_n : Nat) (D_f : Nat → Int32) : Nat → Int64 → Int32 → Option (Int64 × Int32)
  | 0, _, _ => none
  | n + 1, v3, v5 => if S_count ≤ v5 then (some (v3, v5)) else (if v5 < 0 ∨ W_n ≤ v5.toNatClampNeg then none else (if v5 < 0 ∨ D_n ≤ v5.toNatClampNeg then none else (f_S_contrastWanted_37 p1 S_count W_n W_f D_n D_f n (v3 + ((W_f v5.toNatClampNeg).toInt64 * (D_f v5.toNatClampNeg).toInt64)) (v5 + 1))))
def f_S_contrastWanted (S_count : Int32) (S_wantedSum : Int32) (S_foundSum : Int32) (S_foundSquares : Int32) (W_n : Nat) (W_f : Nat → Int32) (D_n : Nat) (D_f : Nat → Int32) : Option (Int32) := if 0 < (lg_cmp ((S_count.toInt64 * S_foundSquares.toInt64) - (S_foundSum.toInt64 * S_foundSum.toInt64)) (0 : Int64)) then ((f_S_contrastWanted_37 ((S_count.toInt64 * S_foundSquares.toInt64) - (S_foundSum.toInt64 * S_foundSum.toInt64)) S_count W_n W_f D_n D_f FU (0 : Int64) (0 : Int32)).bind (fun q306 => (f_F_nearest ((8 : Int64) * ((S_count.toInt64 * q306.1) - (S_foundSum.toInt64 * S_wantedSum.toInt64))) ((S_count.toInt64 * S_foundSquares.toInt64) - (S_foundSum.toInt64 * S_foundSum.toInt64))).bind (fun q310 => (f_F_brought q310 (-7 : Int64) (7 : Int64)).bind (fun q312 => some q312.toInt32)))) else (some (0 : Int32))
set_option maxHeartbeats 4000000 in
set_option maxRecDepth 100000 in
theorem c_S_contrastWanted (l : Launch) (dC : Nat → ClassId) (dI : Nat → Nat → Nat) (cI cL : ClassId) {ws : va_W} {aS aP aH aV aW aD aQ aR aE : Nat} {S_tried S_size S_count S_wantedSum S_foundSum S_foundSquares : Int32} {W_n D_n : Nat} {W_f D_f : Nat → Int32} (hN_S : ws[8]? = some (aS, .inr (3, [.ref aP, .ref aH, .ref aV, .ref aW, .ref aD, .ref aQ, .ref aR, .ref aE, .int S_tried, .int S_size, .int S_count, .int S_wantedSum, .int S_foundSum, .int S_foundSquares]))) (hN_W : ws[9]? = some (aW, .inl (cI, W_n, .inl W_f))) (hN_D : ws[10]? = some (aD, .inl (cI, D_n, .inl D_f))) (r : Int32) (hf : f_S_contrastWanted S_count S_wantedSum S_foundSum S_foundSquares W_n W_f D_n D_f = some r) : Met l y_S_contrastWanted w_S_contrastWanted rm_S_contrastWanted (va_Pc [.ref aS] (zR dC dI cI cL ws)) (vp_Si (fun v => v = r)) 0 0 (fun _ => False) := by
  refine Met.ofW (cc := b_S_contrastWanted) (maxL := 7) (ret := some .int) (by decide) rfl ?_
  intro p e s m args below meth c s₁ B hml hv
  obtain ⟨rfl, hP, hK, hZ⟩ := hv
  have hx := B.exec
  have hb := B.bytes
  have hr := B.returns
  have hlocks := B.notSynchronized
  have hts : ∀ w ∈ BIG, w.before ([.ref aS] : List Value).toArray s = true := fun w h => atoms_spec (ws := w_S_contrastWanted) B.pre w (List.mem_cons_of_mem _ h)
  have hown : s.vm.findClass "FractalMaps$Search" = some m.cls := findClass_of_methodNamed B.named
  have hl := lv_entry ([.ref aS]) (n := 7) (Nat.le_of_ble_eq_true rfl)
  rw [lg_entry_eq]
  generalize (lg_sl ([.ref aS]) ++ List.replicate (7 - (lg_sl ([.ref aS])).length) Slot.unset).toArray = ls at hl ⊢
  have hl : lv_has ls 7 [(0, .ref aS)] := hl
  unfold f_S_contrastWanted at hf
  refine lv_aload_n hx hb d_S_contrastWanted_0 rfl (lv_at hl 0 rfl) ?_
  refine gf_S_86 (v := .int S_count) hx hb hts hown hK hP hN_S rfl d_S_contrastWanted_1 ?_
  refine lv_i2l hx hb d_S_contrastWanted_4 rfl ?_
  refine lv_aload_n hx hb d_S_contrastWanted_5 rfl (lv_at hl 0 rfl) ?_
  refine gf_S_128 (v := .int S_foundSquares) hx hb hts hown hK hP hN_S rfl d_S_contrastWanted_6 ?_
  refine lv_i2l hx hb d_S_contrastWanted_9 rfl ?_
  refine lv_lmul hx hb d_S_contrastWanted_10 ?_
  refine lv_aload_n hx hb d_S_contrastWanted_11 rfl (lv_at hl 0 rfl) ?_
  refine gf_S_110 (v := .int S_foundSum) hx hb hts hown hK hP hN_S rfl d_S_contrastWanted_12 ?_
  refine lv_i2l hx hb d_S_contrastWanted_15 rfl ?_
  refine lv_aload_n hx hb d_S_contrastWanted_16 rfl (lv_at hl 0 rfl) ?_
  refine gf_S_110 (v := .int S_foundSum) hx hb hts hown hK hP hN_S rfl d_S_contrastWanted_17 ?_
  refine lv_i2l hx hb d_S_contrastWanted_20 rfl ?_
  refine lv_lmul hx hb d_S_contrastWanted_21 ?_
  refine lv_lsub hx hb d_S_contrastWanted_22 ?_
  refine lv_lstore_n (lv' := [(1, .long ((S_count.toInt64 * S_foundSquares.toInt64) - (S_foundSum.toInt64 * S_foundSum.toInt64))), (0, .ref aS)]) hx hb d_S_contrastWanted_23 rfl hl (by decide) rfl (fun ls hl => ?_)
  refine lv_lload_n hx hb d_S_contrastWanted_24 rfl (lv_at hl 0 rfl) ?_
  refine lv_lconst (v := 0) hx hb d_S_contrastWanted_25 (by decide) ?_
  refine W.lcmp hx hb d_S_contrastWanted_26 ?_
  refine lv_if_gt (tgt := 32) hx hb d_S_contrastWanted_27 (by decide) (fun hc => ?_) (fun hc => ?_)
  · have hf := z_t hc hf
    refine lv_lconst (v := 0) hx hb d_S_contrastWanted_32 (by decide) ?_
    refine lv_lstore_n (lv' := [(3, .long (0 : Int64)), (1, .long ((S_count.toInt64 * S_foundSquares.toInt64) - (S_foundSum.toInt64 * S_foundSum.toInt64))), (0, .ref aS)]) hx hb d_S_contrastWanted_33 rfl hl (by decide) rfl (fun ls hl => ?_)
    refine lv_iconst (v := 0) hx hb d_S_contrastWanted_34 (by decide) ?_
    refine lv_istore (lv' := [(5, .int (0 : Int32)), (3, .long (0 : Int64)), (1, .long ((S_count.toInt64 * S_foundSquares.toInt64) - (S_foundSum.toInt64 * S_foundSum.toInt64))), (0, .ref aS)]) hx hb d_S_contrastWanted_35 hl (by decide) rfl (fun ls hl => ?_)
    have lp309 : ∀ (Qx : State → Prop) (n : Nat) (v3_307 : Int64) (v5_308 : Int32) (ls : Array Slot) (q : Int64 × Int32) (hf : f_S_contrastWanted_37 ((S_count.toInt64 * S_foundSquares.toInt64) - (S_foundSum.toInt64 * S_foundSum.toInt64)) S_count W_n W_f D_n D_f n v3_307 v5_308 = some q) (hl : lv_has ls 7 [(0, .ref aS), (1, .long ((S_count.toInt64 * S_foundSquares.toInt64) - (S_foundSum.toInt64 * S_foundSum.toInt64))), (3, .long v3_307), (5, .int v5_308)]) (kt0 : ∀ (ls : Array Slot), lv_has ls 7 [(0, .ref aS), (1, .long ((S_count.toInt64 * S_foundSquares.toInt64) - (S_foundSum.toInt64 * S_foundSum.toInt64))), (3, .long q.1), (5, .int q.2)] → W p l e (headSpec w_S_contrastWanted rm_S_contrastWanted).room s m ([.ref aS] : List Value).toArray below meth c s.heap [] 0 0 Qx (F0 m 72 ls [])), W p l e (headSpec w_S_contrastWanted rm_S_contrastWanted).room s m ([.ref aS] : List Value).toArray below meth c s.heap [] 0 0 Qx (F0 m 37 ls []) := by
      intro Qx n
      induction n with
      | zero => intro v3_307 v5_308 ls q hf; cases hf
      | succ n ih =>
        intro v3_307 v5_308 ls q hf hl kt0
        rw [f_S_contrastWanted_37] at hf
        refine lv_iload hx hb d_S_contrastWanted_37 (lv_at hl 3 rfl) ?_
        refine lv_aload_n hx hb d_S_contrastWanted_39 rfl (lv_at hl 0 rfl) ?_
        refine gf_S_86 (v := .int S_count) hx hb hts hown hK hP hN_S rfl d_S_contrastWanted_40 ?_
        refine lv_icmp_ge (tgt := 72) hx hb d_S_contrastWanted_43 (by decide) (fun hc => ?_) (fun hc => ?_)
        · have hf := z_t hc hf
          obtain rfl := Option.some.inj hf
          exact kt0 ls (lv_sub hl [0, 1, 2, 3] rfl)
        · have hf := z_f hc hf
          refine lv_lload_n hx hb d_S_contrastWanted_46 rfl (lv_at hl 2 rfl) ?_
          refine lv_aload_n hx hb d_S_contrastWanted_47 rfl (lv_at hl 0 rfl) ?_
          refine gf_S_28 (v := .ref aW) hx hb hts hown hK hP hN_S rfl d_S_contrastWanted_48 ?_
          refine lv_iload hx hb d_S_contrastWanted_51 (lv_at hl 3 rfl) ?_
          obtain ⟨hin, hf⟩ := z_no hf
          refine va_iald hx hb hK hP _ 0 hN_W rfl hin d_S_contrastWanted_53 ?_
          refine lv_i2l hx hb d_S_contrastWanted_54 rfl ?_
          refine lv_aload_n hx hb d_S_contrastWanted_55 rfl (lv_at hl 0 rfl) ?_
          refine gf_S_31 (v := .ref aD) hx hb hts hown hK hP hN_S rfl d_S_contrastWanted_56 ?_
          refine lv_iload hx hb d_S_contrastWanted_59 (lv_at hl 3 rfl) ?_
          obtain ⟨hin, hf⟩ := z_no hf
          refine va_iald hx hb hK hP _ 0 hN_D rfl hin d_S_contrastWanted_61 ?_
          refine lv_i2l hx hb d_S_contrastWanted_62 rfl ?_
          refine lv_lmul hx hb d_S_contrastWanted_63 ?_
          refine lv_ladd hx hb d_S_contrastWanted_64 ?_
          refine lv_lstore_n (lv' := [(3, .long (v3_307 + ((W_f v5_308.toNatClampNeg).toInt64 * (D_f v5_308.toNatClampNeg).toInt64))), (0, .ref aS), (1, .long ((S_count.toInt64 * S_foundSquares.toInt64) - (S_foundSum.toInt64 * S_foundSum.toInt64))), (5, .int v5_308)]) hx hb d_S_contrastWanted_65 rfl hl (by decide) rfl (fun ls hl => ?_)
          refine lv_iinc (v := (v5_308 + 1)) (lv' := [(5, .int (v5_308 + 1)), (3, .long (v3_307 + ((W_f v5_308.toNatClampNeg).toInt64 * (D_f v5_308.toNatClampNeg).toInt64))), (0, .ref aS), (1, .long ((S_count.toInt64 * S_foundSquares.toInt64) - (S_foundSum.toInt64 * S_foundSum.toInt64)))]) hx hb d_S_contrastWanted_66 hl (k := 3) rfl rfl (by decide) rfl (fun ls hl => ?_)
          refine lv_goto (tgt := 37) hx hb d_S_contrastWanted_69 (by decide) ?_
          exact ih (v3_307 + ((W_f v5_308.toNatClampNeg).toInt64 * (D_f v5_308.toNatClampNeg).toInt64)) (v5_308 + 1) ls _ hf (lv_sub hl [2, 3, 1, 0] rfl) kt0
    obtain ⟨q306, hc, hf⟩ := z_b hf
    refine lp309 _ FU (0 : Int64) (0 : Int32) ls q306 hc (lv_sub hl [3, 2, 1, 0] rfl) (fun ls hl => ?_)
    refine lv_aload_n hx hb d_S_contrastWanted_72 rfl (lv_at hl 0 rfl) ?_
    refine gf_S_86 (v := .int S_count) hx hb hts hown hK hP hN_S rfl d_S_contrastWanted_73 ?_
    refine lv_i2l hx hb d_S_contrastWanted_76 rfl ?_
    refine lv_lload_n hx hb d_S_contrastWanted_77 rfl (lv_at hl 2 rfl) ?_
    refine lv_lmul hx hb d_S_contrastWanted_78 ?_
    refine lv_aload_n hx hb d_S_contrastWanted_79 rfl (lv_at hl 0 rfl) ?_
    refine gf_S_110 (v := .int S_foundSum) hx hb hts hown hK hP hN_S rfl d_S_contrastWanted_80 ?_
    refine lv_i2l hx hb d_S_contrastWanted_83 rfl ?_
    refine lv_aload_n hx hb d_S_contrastWanted_84 rfl (lv_at hl 0 rfl) ?_
    refine gf_S_101 (v := .int S_wantedSum) hx hb hts hown hK hP hN_S rfl d_S_contrastWanted_85 ?_
    refine lv_i2l hx hb d_S_contrastWanted_88 rfl ?_
    refine lv_lmul hx hb d_S_contrastWanted_89 ?_
    refine lv_lsub hx hb d_S_contrastWanted_90 ?_
    refine lv_lstore (lv' := [(5, .long ((S_count.toInt64 * q306.1) - (S_foundSum.toInt64 * S_wantedSum.toInt64))), (0, .ref aS), (1, .long ((S_count.toInt64 * S_foundSquares.toInt64) - (S_foundSum.toInt64 * S_foundSum.toInt64))), (3, .long q306.1)]) hx hb d_S_contrastWanted_91 hl (by decide) rfl (fun ls hl => ?_)
    refine lv_ldc2 (v := 8) hx hb hown (hts _ lk_S_149) d_S_contrastWanted_93 ?_
    refine lv_lload hx hb d_S_contrastWanted_96 (lv_at hl 0 rfl) ?_
    refine lv_lmul hx hb d_S_contrastWanted_98 ?_
    refine lv_lload_n hx hb d_S_contrastWanted_99 rfl (lv_at hl 2 rfl) ?_
    obtain ⟨q310, hc, hf⟩ := z_b hf
    refine vp_callSl (z_cr (va_runSN (As := [.long ((8 : Int64) * ((S_count.toInt64 * q306.1) - (S_foundSum.toInt64 * S_wantedSum.toInt64))), .long ((S_count.toInt64 * S_foundSquares.toInt64) - (S_foundSum.toInt64 * S_foundSum.toInt64))]) (rest := []) ⟨hx, hb, hml, hown, hts⟩ (c_F_nearest l ((8 : Int64) * ((S_count.toInt64 * q306.1) - (S_foundSum.toInt64 * S_wantedSum.toInt64))) ((S_count.toInt64 * S_foundSquares.toInt64) - (S_foundSum.toInt64 * S_foundSum.toInt64)) q310 hc) (cw_S_142 hts hZ ⟨Nat.le_of_ble_eq_true rfl, Nat.le_of_ble_eq_true rfl⟩) ⟨zb0, zp0⟩ rfl rfl hl.1 rfl (lv_room (Nat.le_of_ble_eq_true rfl)) d_S_contrastWanted_100 ⟨Nat.zero_le _, Nat.zero_le _⟩)) (fun r311 hv => ?_)
    have hv := hv.symm
    subst hv
    refine lv_ldc2 (v := (-7)) hx hb hown (hts _ lk_S_151) d_S_contrastWanted_103 ?_
    refine lv_ldc2 (v := 7) hx hb hown (hts _ lk_S_153) d_S_contrastWanted_106 ?_
    obtain ⟨q312, hc, hf⟩ := z_b hf
    refine vp_callSl (z_cr (va_runSN (As := [.long q310, .long (-7 : Int64), .long (7 : Int64)]) (rest := []) ⟨hx, hb, hml, hown, hts⟩ (c_F_brought l q310 (-7 : Int64) (7 : Int64) q312 hc) (cw_S_155 hts hZ ⟨Nat.le_of_ble_eq_true rfl, Nat.le_of_ble_eq_true rfl⟩) ⟨zb0, zp0⟩ rfl rfl hl.1 rfl (lv_room (Nat.le_of_ble_eq_true rfl)) d_S_contrastWanted_109 ⟨Nat.zero_le _, Nat.zero_le _⟩)) (fun r313 hv => ?_)
    have hv := hv.symm
    subst hv
    refine lv_l2i hx hb d_S_contrastWanted_112 rfl ?_
    obtain rfl := Option.some.inj hf
    exact W.iret hx hb hr (fun t ht hW => ⟨_, rfl, rfl, ht⟩) (fun q h => by cases h) d_S_contrastWanted_113
  · have hf := z_f hc hf
    refine lv_iconst (v := 0) hx hb d_S_contrastWanted_30 (by decide) ?_
    obtain rfl := Option.some.inj hf
    exact W.iret hx hb hr (fun t ht hW => ⟨_, rfl, rfl, ht⟩) (fun q h => by cases h) d_S_contrastWanted_31
def f_JM_floorDiv0 (x1 : Int32) (x2 : Int32) : Option (Int32) := if x2 = 0 then none else (if 0 ≤ (x1 ^^^ x2) then (some (x1 / x2)) else (if ((x1 / x2) * x2) = x1 then (some (x1 / x2)) else (some ((x1 / x2) - (1 : Int32)))))
set_option maxHeartbeats 4000000 in
set_option maxRecDepth 100000 in
theorem c_JM_floorDiv0 (l : Launch) (x1 : Int32) (x2 : Int32) (r : Int32) (hf : f_JM_floorDiv0 x1 x2 = some r) : Met l y_JM_floorDiv0 w_JM_floorDiv0 rm_JM_floorDiv0 (va_Pc [.int x1, .int x2] (fun _ => True)) (vp_Si (fun v => v = r)) 0 0 (fun _ => False) := by
  refine va_MetF (cc := b_JM_floorDiv0) (maxL := 3) (ret := some .int) (by decide +kernel) rfl ?_
  intro p e s m args below meth c s₁ B hml hv
  obtain ⟨rfl, -⟩ := hv
  have hx := B.exec
  have hb := B.bytes
  have hr := B.returns
  have hlocks := B.notSynchronized
  have hts : ∀ w ∈ BIG, w.before ([.int x1, .int x2] : List Value).toArray s = true := fun w h => atoms_spec (ws := w_JM_floorDiv0) B.pre w (List.mem_cons_of_mem _ h)
  have hown : s.vm.findClass "java/lang/Math" = some m.cls := findClass_of_methodNamed B.named
  have hl := lv_entry ([.int x1, .int x2]) (n := 3) (Nat.le_of_ble_eq_true rfl)
  rw [lg_entry_eq]
  generalize (lg_sl ([.int x1, .int x2]) ++ List.replicate (3 - (lg_sl ([.int x1, .int x2])).length) Slot.unset).toArray = ls at hl ⊢
  have hl : lv_has ls 3 [(0, .int x1), (1, .int x2)] := hl
  unfold f_JM_floorDiv0 at hf
  refine lv_iload_n hx hb d_JM_floorDiv0_0 rfl (lv_at hl 0 rfl) ?_
  refine lv_iload_n hx hb d_JM_floorDiv0_1 rfl (lv_at hl 1 rfl) ?_
  obtain ⟨hne, hf⟩ := z_no hf
  refine lv_idiv hx hb d_JM_floorDiv0_2 hne ?_
  refine lv_istore_n (lv' := [(2, .int (x1 / x2)), (0, .int x1), (1, .int x2)]) hx hb d_JM_floorDiv0_3 rfl hl (by decide) rfl (fun ls hl => ?_)
  refine lv_iload_n hx hb d_JM_floorDiv0_4 rfl (lv_at hl 1 rfl) ?_
  refine lv_iload_n hx hb d_JM_floorDiv0_5 rfl (lv_at hl 2 rfl) ?_
  refine lv_ixor hx hb d_JM_floorDiv0_6 ?_
  refine lv_if_ge (tgt := 21) hx hb d_JM_floorDiv0_7 (by decide) (fun hc => ?_) (fun hc => ?_)
  · have hf := z_t hc hf
    refine lv_iload_n hx hb d_JM_floorDiv0_21 rfl (lv_at hl 0 rfl) ?_
    obtain rfl := Option.some.inj hf
    exact W.iret hx hb hr (fun t ht hW => ⟨_, rfl, rfl, ht⟩) (fun q h => by cases h) d_JM_floorDiv0_22
  · have hf := z_f hc hf
    refine lv_iload_n hx hb d_JM_floorDiv0_10 rfl (lv_at hl 0 rfl) ?_
    refine lv_iload_n hx hb d_JM_floorDiv0_11 rfl (lv_at hl 2 rfl) ?_
    refine lv_imul hx hb d_JM_floorDiv0_12 ?_
    refine lv_iload_n hx hb d_JM_floorDiv0_13 rfl (lv_at hl 1 rfl) ?_
    refine lv_icmp_eq (tgt := 21) hx hb d_JM_floorDiv0_14 (by decide) (fun hc => ?_) (fun hc => ?_)
    · have hf := z_t hc hf
      refine lv_iload_n hx hb d_JM_floorDiv0_21 rfl (lv_at hl 0 rfl) ?_
      obtain rfl := Option.some.inj hf
      exact W.iret hx hb hr (fun t ht hW => ⟨_, rfl, rfl, ht⟩) (fun q h => by cases h) d_JM_floorDiv0_22
    · have hf := z_f hc hf
      refine lv_iload_n hx hb d_JM_floorDiv0_17 rfl (lv_at hl 0 rfl) ?_
      refine lv_iconst (v := 1) hx hb d_JM_floorDiv0_18 (by decide) ?_
      refine lv_isub hx hb d_JM_floorDiv0_19 ?_
      obtain rfl := Option.some.inj hf
      exact W.iret hx hb hr (fun t ht hW => ⟨_, rfl, rfl, ht⟩) (fun q h => by cases h) d_JM_floorDiv0_20
def f_F_dimmed (x1 : Int32) (x2 : Int32) : Option (Int32) := (f_JM_floorDiv0 (x2 * x1) (8 : Int32)).bind (fun q314 => some q314)
set_option maxHeartbeats 4000000 in
set_option maxRecDepth 100000 in
theorem c_F_dimmed (l : Launch) (x1 : Int32) (x2 : Int32) (r : Int32) (hf : f_F_dimmed x1 x2 = some r) : Met l y_F_dimmed w_F_dimmed rm_F_dimmed (va_Pc [.int x1, .int x2] (fun _ => True)) (vp_Si (fun v => v = r)) 0 0 (fun _ => False) := by
  refine Met.ofW (cc := b_F_dimmed) (maxL := 2) (ret := some .int) (by decide) rfl ?_
  intro p e s m args below meth c s₁ B hml hv
  obtain ⟨rfl, -⟩ := hv
  have hx := B.exec
  have hb := B.bytes
  have hr := B.returns
  have hlocks := B.notSynchronized
  have hts : ∀ w ∈ BIG, w.before ([.int x1, .int x2] : List Value).toArray s = true := fun w h => atoms_spec (ws := w_F_dimmed) B.pre w (List.mem_cons_of_mem _ h)
  have hown : s.vm.findClass "FractalMaps" = some m.cls := findClass_of_methodNamed B.named
  have hl := lv_entry ([.int x1, .int x2]) (n := 2) (Nat.le_of_ble_eq_true rfl)
  rw [lg_entry_eq]
  generalize (lg_sl ([.int x1, .int x2]) ++ List.replicate (2 - (lg_sl ([.int x1, .int x2])).length) Slot.unset).toArray = ls at hl ⊢
  have hl : lv_has ls 2 [(0, .int x1), (1, .int x2)] := hl
  unfold f_F_dimmed at hf
  refine lv_iload_n hx hb d_F_dimmed_0 rfl (lv_at hl 1 rfl) ?_
  refine lv_iload_n hx hb d_F_dimmed_1 rfl (lv_at hl 0 rfl) ?_
  refine lv_imul hx hb d_F_dimmed_2 ?_
  refine lv_bipush (v := 8) hx hb d_F_dimmed_3 (by decide) ?_
  obtain ⟨q314, hc, hf⟩ := z_b hf
  refine vp_callSi (z_cr (va_runS (As := [.int (x2 * x1), .int (8 : Int32)]) (rest := []) ⟨hx, hb, hml, hown, hts⟩ (c_JM_floorDiv0 l (x2 * x1) (8 : Int32) q314 hc) (cw_F_295 hts ⟨Nat.le_of_ble_eq_true rfl, Nat.le_of_ble_eq_true rfl⟩) ⟨zb0, zp0⟩ rfl rfl hl.1 rfl (lv_room (Nat.le_of_ble_eq_true rfl)) d_F_dimmed_5 ⟨Nat.zero_le _, Nat.zero_le _⟩)) (fun r315 hv => ?_)
  have hv := hv.symm
  subst hv
  obtain rfl := Option.some.inj hf
  exact W.iret hx hb hr (fun t ht hW => ⟨_, rfl, rfl, ht⟩) (fun q h => by cases h) d_F_dimmed_8
def f_S_tryTurn_31 (p1 : Int32) (p2 : Int32) (p3 : Int32) (S_count : Int32) (W_n : Nat) (W_f : Nat → Int32) (D_n : Nat) (D_f : Nat → Int32) : Nat → Int32 → Int32 → Int32 → Option (Int32 × Int32 × Int32)
  | 0, _, _, _ => none
  | n + 1, v4, v5, v6 => if S_count ≤ v6 then (some (v4, v5, v6)) else (if v6 < 0 ∨ W_n ≤ v6.toNatClampNeg then none else (if v6 < 0 ∨ D_n ≤ v6.toNatClampNeg then none else ((f_F_dimmed (D_f v6.toNatClampNeg) p3).bind (fun q320 => f_S_tryTurn_31 p1 p2 p3 S_count W_n W_f D_n D_f n (v4 + ((W_f v6.toNatClampNeg) - q320)) (v5 + (((W_f v6.toNatClampNeg) - q320) * ((W_f v6.toNatClampNeg) - q320))) (v6 + 1)))))
def f_S_tryTurn (x1 : Int32) (x2 : Int32) (S_size : Int32) (S_count : Int32) (S_wantedSum : Int32) (S_foundSum : Int32) (S_foundSquares : Int32) (H_side : Int32) (HA_n : Nat) (HA_f : Nat → Int32) (V_left : Int32) (V_top : Int32) (V_start : Int32) (V_stepAcross : Int32) (V_stepDown : Int32) (W_n : Nat) (W_f : Nat → Int32) (D_n : Nat) (D_f : Nat → Int32) (E_domain : Int32) (E_turn : Int32) (E_contrast : Int32) (E_offset : Int32) (E_error : Int32) : Option (Int32 × Int32 × Int32 × Int32 × Int32 × (Nat → Int32) × Int32 × Int32 × Int32 × Int32 × Int32) := (f_V_aim S_size x1 x2 V_left V_top V_start H_side).bind (fun q316 => (f_S_takeDomain S_size HA_n HA_f q316.2.2.1 q316.2.2.2.1 q316.2.2.2.2 D_n D_f).bind (fun q317 => (f_S_contrastWanted S_count S_wantedSum S_foundSum S_foundSquares W_n W_f D_n q317).bind (fun q318 => (f_S_tryTurn_31 x1 x2 q318 S_count W_n W_f D_n q317 FU (0 : Int32) (0 : Int32) (0 : Int32)).bind (fun q322 => (f_F_nearest q322.1.toInt64 S_count.toInt64).bind (fun q329 => if E_error = ((-1) : Int32) then ((f_T_become x1 x2 q318 q329.toInt32 ((q322.2.1 - (((2 : Int32) * q329.toInt32) * q322.1)) + ((S_count * q329.toInt32) * q329.toInt32))).bind (fun q331 => some (q316.1, q316.2.1, q316.2.2.1, q316.2.2.2.1, q316.2.2.2.2, q317, q331.1, q331.2.1, q331.2.2.1, q331.2.2.2.1, q331.2.2.2.2))) else (if E_error ≤ ((q322.2.1 - (((2 : Int32) * q329.toInt32) * q322.1)) + ((S_count * q329.toInt32) * q329.toInt32)) then (some (q316.1, q316.2.1, q316.2.2.1, q316.2.2.2.1, q316.2.2.2.2, q317, E_domain, E_turn, E_contrast, E_offset, E_error)) else ((f_T_become x1 x2 q318 q329.toInt32 ((q322.2.1 - (((2 : Int32) * q329.toInt32) * q322.1)) + ((S_count * q329.toInt32) * q329.toInt32))).bind (fun q332 => some (q316.1, q316.2.1, q316.2.2.1, q316.2.2.2.1, q316.2.2.2.2, q317, q332.1, q332.2.1, q332.2.2.1, q332.2.2.2.1, q332.2.2.2.2)))))))))
set_option maxHeartbeats 4000000 in
set_option maxRecDepth 100000 in
theorem c_S_tryTurn (l : Launch) (dC : Nat → ClassId) (dI : Nat → Nat → Nat) (cI cL : ClassId) {ws0 : va_W} (sz : Nat) {aS aP aH aV aW aD aQ aR aE aHA : Nat} {S_tried S_size S_count S_wantedSum S_foundSum S_foundSquares H_mostSide H_side V_left V_top V_start V_stepAcross V_stepDown E_domain E_turn E_contrast E_offset E_error : Int32} {HA_n W_n D_n : Nat} {HA_f W_f D_f : Nat → Int32} (x1 : Int32) (x2 : Int32) (hN_S : ws0[8]? = some (aS, .inr (3, [.ref aP, .ref aH, .ref aV, .ref aW, .ref aD, .ref aQ, .ref aR, .ref aE, .int S_tried, .int S_size, .int S_count, .int S_wantedSum, .int S_foundSum, .int S_foundSquares]))) (hN_H : ws0[5]? = some (aH, .inr (1, [.int H_mostSide, .ref aHA, .int H_side]))) (hN_HA : ws0[6]? = some (aHA, .inl (cI, HA_n, .inl HA_f))) (hN_V : ws0[7]? = some (aV, .inr (2, [.ref aH, .int V_left, .int V_top, .int V_start, .int V_stepAcross, .int V_stepDown]))) (hN_W : ws0[9]? = some (aW, .inl (cI, W_n, .inl W_f))) (hN_D : ws0[10]? = some (aD, .inl (cI, D_n, .inl D_f))) (hN_E : ws0[13]? = some (aE, .inr (4, [.int E_domain, .int E_turn, .int E_contrast, .int E_offset, .int E_error]))) (r : Int32 × Int32 × Int32 × Int32 × Int32 × (Nat → Int32) × Int32 × Int32 × Int32 × Int32 × Int32) (hf : f_S_tryTurn x1 x2 S_size S_count S_wantedSum S_foundSum S_foundSquares H_side HA_n HA_f V_left V_top V_start V_stepAcross V_stepDown W_n W_f D_n D_f E_domain E_turn E_contrast E_offset E_error = some r) : Met l y_S_tryTurn w_S_tryTurn rm_S_tryTurn (va_Pc [.ref aS, .int x1, .int x2] (zM dC dI cI cL ws0 sz)) (va_Qv (fun ws' : va_W => ws'[7]? = some (aV, .inr (2, [.ref aH, .int r.1, .int r.2.1, .int r.2.2.1, .int r.2.2.2.1, .int r.2.2.2.2.1])) ∧ ws'[10]? = some (aD, .inl (cI, D_n, .inl r.2.2.2.2.2.1)) ∧ ws'[13]? = some (aE, .inr (4, [.int r.2.2.2.2.2.2.1, .int r.2.2.2.2.2.2.2.1, .int r.2.2.2.2.2.2.2.2.1, .int r.2.2.2.2.2.2.2.2.2.1, .int r.2.2.2.2.2.2.2.2.2.2])) ∧ ∀ (j : Nat), j ∉ ([7, 10, 13] : List Nat) → ws'[j]? = ws0[j]?) (zQ dC dI cI cL (va_A ws0 sz)) (va_A ws0 sz)) 0 0 (va_A ws0 sz) := by
  refine Met.ofW (cc := b_S_tryTurn) (maxL := 8) (ret := none) (by decide) rfl ?_
  intro p e s m args below meth c s₁ B hml hv
  obtain ⟨rfl, hsz, hP, hK, hZ, hD0⟩ := hv
  have hx := B.exec
  have hb := B.bytes
  have hr := B.returns
  have hlocks := B.notSynchronized
  have hts : ∀ w ∈ BIG, w.before ([.ref aS, .int x1, .int x2] : List Value).toArray s = true := fun w h => atoms_spec (ws := w_S_tryTurn) B.pre w (List.mem_cons_of_mem _ h)
  have hown : s.vm.findClass "FractalMaps$Search" = some m.cls := findClass_of_methodNamed B.named
  subst hsz
  have hD := hD0.self (sz := s.heap.size)
  generalize hAe : va_A ws0 s.heap.size = A at hD ⊢
  have hA : ∀ q : Nat, s.heap.size ≤ q → A q := fun q h => by rw [← hAe]; exact Or.inr h
  have hS : va_S A s.heap s.heap [] := va_S.rf
  have hw : ∀ (j : Nat), j ∉ ([7, 10, 13] : List Nat) → ws0[j]? = ws0[j]? := fun _ _ => rfl
  have hl := lv_entry ([.ref aS, .int x1, .int x2]) (n := 8) (Nat.le_of_ble_eq_true rfl)
  rw [lg_entry_eq]
  generalize (lg_sl ([.ref aS, .int x1, .int x2]) ++ List.replicate (8 - (lg_sl ([.ref aS, .int x1, .int x2])).length) Slot.unset).toArray = ls at hl ⊢
  have hl : lv_has ls 8 [(0, .ref aS), (1, .int x1), (2, .int x2)] := hl
  unfold f_S_tryTurn at hf
  refine lv_aload_n hx hb d_S_tryTurn_0 rfl (lv_at hl 0 rfl) ?_
  refine gf_S_18 (v := .ref aV) hx hb hts hown hK hP hN_S rfl d_S_tryTurn_1 ?_
  refine lv_aload_n hx hb d_S_tryTurn_4 rfl (lv_at hl 0 rfl) ?_
  refine gf_S_78 (v := .int S_size) hx hb hts hown hK hP hN_S rfl d_S_tryTurn_5 ?_
  refine lv_iload_n hx hb d_S_tryTurn_8 rfl (lv_at hl 1 rfl) ?_
  refine lv_iload_n hx hb d_S_tryTurn_9 rfl (lv_at hl 2 rfl) ?_
  obtain ⟨q316, hc, hf⟩ := z_b hf
  have hFc := z_free hD hS hA
  refine va_callv (va_runV (As := [.int S_size, .int x1, .int x2]) (rest := []) ⟨hx, hb, hml, hown, hts⟩ (c_V_aim l dC dI cI cL _ S_size x1 x2 hN_V hN_H q316 hc) (cw_S_107 hts ⟨Nat.le_of_ble_eq_true rfl, Nat.le_of_ble_eq_true rfl⟩) ⟨zbM, va_recv hK hP (ci := 2) rfl hN_V, (zpM hP hK hZ hD)⟩ rfl rfl hl.1 rfl (lv_room (Nat.le_of_ble_eq_true rfl)) d_S_tryTurn_10 ⟨Nat.zero_le _, Nat.zero_le _⟩) hS (fun q _ h => hFc q h) hFc (fun ws t H locs ht hvm hu hB hz1 hk1 hS => ?_)
  obtain ⟨hN_V, hfr⟩ := hu
  obtain ⟨hP, -, hD1⟩ := hB
  rw [ht] at hP
  have hD := hD1.weaken (fun _ _ _ h => hFc _ h)
  have hN_V : ws[7]? = some (aV, .inr (2, [.ref aH, .int q316.1, .int q316.2.1, .int q316.2.2.1, .int q316.2.2.2.1, .int q316.2.2.2.2])) := hN_V
  have hN_S := (hfr _ (by decide)).trans hN_S
  have hN_H := (hfr _ (by decide)).trans hN_H
  have hN_HA := (hfr _ (by decide)).trans hN_HA
  have hN_W := (hfr _ (by decide)).trans hN_W
  have hN_D := (hfr _ (by decide)).trans hN_D
  have hN_E := (hfr _ (by decide)).trans hN_E
  have hw := z_frC (by decide) hw hfr
  refine lv_aload_n hx hb d_S_tryTurn_13 rfl (lv_at hl 0 rfl) ?_
  obtain ⟨q317, hc, hf⟩ := z_b hf
  have hFc := z_free hD hS hA
  refine va_callv (va_runV (As := []) (rest := []) ⟨hx, hb, hml, hown, hts⟩ (c_S_takeDomain l dC dI cI cL _ hN_S hN_H hN_HA hN_V hN_D q317 hc) (cw_S_132 hts ⟨Nat.le_of_ble_eq_true rfl, Nat.le_of_ble_eq_true rfl⟩) ⟨zbM, va_recv hK hP (ci := 3) rfl hN_S, (zpM hP hK hZ hD)⟩ rfl rfl hl.1 rfl (lv_room (Nat.le_of_ble_eq_true rfl)) d_S_tryTurn_14 ⟨Nat.zero_le _, Nat.zero_le _⟩) hS (fun q _ h => hFc q h) hFc (fun ws t H locs ht hvm hu hB hz1 hk1 hS => ?_)
  obtain ⟨hN_D, hfr⟩ := hu
  obtain ⟨hP, -, hD1⟩ := hB
  rw [ht] at hP
  have hD := hD1.weaken (fun _ _ _ h => hFc _ h)
  have hN_D : ws[10]? = some (aD, .inl (cI, D_n, .inl q317)) := hN_D
  have hN_S := (hfr _ (by decide)).trans hN_S
  have hN_H := (hfr _ (by decide)).trans hN_H
  have hN_HA := (hfr _ (by decide)).trans hN_HA
  have hN_V := (hfr _ (by decide)).trans hN_V
  have hN_W := (hfr _ (by decide)).trans hN_W
  have hN_E := (hfr _ (by decide)).trans hN_E
  have hw := z_frC (by decide) hw hfr
  refine lv_aload_n hx hb d_S_tryTurn_17 rfl (lv_at hl 0 rfl) ?_
  obtain ⟨q318, hc, hf⟩ := z_b hf
  refine vp_callSi (z_cr (va_runV (As := []) (rest := []) ⟨hx, hb, hml, hown, hts⟩ (c_S_contrastWanted l dC dI cI cL hN_S hN_W hN_D q318 hc) (cw_S_135 hts ⟨Nat.le_of_ble_eq_true rfl, Nat.le_of_ble_eq_true rfl⟩) ⟨zbR, va_recv hK hP (ci := 3) rfl hN_S, (zpR hP hK hZ)⟩ rfl rfl hl.1 rfl (lv_room (Nat.le_of_ble_eq_true rfl)) d_S_tryTurn_18 ⟨Nat.zero_le _, Nat.zero_le _⟩)) (fun r319 hv => ?_)
  have hv := hv.symm
  subst hv
  refine lv_istore_n (lv' := [(3, .int q318), (0, .ref aS), (1, .int x1), (2, .int x2)]) hx hb d_S_tryTurn_21 rfl hl (by decide) rfl (fun ls hl => ?_)
  refine lv_iconst (v := 0) hx hb d_S_tryTurn_22 (by decide) ?_
  refine lv_istore (lv' := [(4, .int (0 : Int32)), (3, .int q318), (0, .ref aS), (1, .int x1), (2, .int x2)]) hx hb d_S_tryTurn_23 hl (by decide) rfl (fun ls hl => ?_)
  refine lv_iconst (v := 0) hx hb d_S_tryTurn_25 (by decide) ?_
  refine lv_istore (lv' := [(5, .int (0 : Int32)), (4, .int (0 : Int32)), (3, .int q318), (0, .ref aS), (1, .int x1), (2, .int x2)]) hx hb d_S_tryTurn_26 hl (by decide) rfl (fun ls hl => ?_)
  refine lv_iconst (v := 0) hx hb d_S_tryTurn_28 (by decide) ?_
  refine lv_istore (lv' := [(6, .int (0 : Int32)), (5, .int (0 : Int32)), (4, .int (0 : Int32)), (3, .int q318), (0, .ref aS), (1, .int x1), (2, .int x2)]) hx hb d_S_tryTurn_29 hl (by decide) rfl (fun ls hl => ?_)
  have lp326 : ∀ (Qx : State → Prop) (n : Nat) (v4_323 : Int32) (v5_324 : Int32) (v6_325 : Int32) (ls : Array Slot) (q : Int32 × Int32 × Int32) (hf : f_S_tryTurn_31 x1 x2 q318 S_count W_n W_f D_n q317 n v4_323 v5_324 v6_325 = some q) (hl : lv_has ls 8 [(0, .ref aS), (1, .int x1), (2, .int x2), (3, .int q318), (4, .int v4_323), (5, .int v5_324), (6, .int v6_325)]) (kt0 : ∀ (ls : Array Slot), lv_has ls 8 [(0, .ref aS), (1, .int x1), (2, .int x2), (3, .int q318), (4, .int q.1), (5, .int q.2.1), (6, .int q.2.2)] → W p l e (headSpec w_S_tryTurn rm_S_tryTurn).room s m ([.ref aS, .int x1, .int x2] : List Value).toArray below meth c H locs 0 0 Qx (F0 m 84 ls [])), W p l e (headSpec w_S_tryTurn rm_S_tryTurn).room s m ([.ref aS, .int x1, .int x2] : List Value).toArray below meth c H locs 0 0 Qx (F0 m 31 ls []) := by
    intro Qx n
    induction n with
    | zero => intro v4_323 v5_324 v6_325 ls q hf; cases hf
    | succ n ih =>
      intro v4_323 v5_324 v6_325 ls q hf hl kt0
      rw [f_S_tryTurn_31] at hf
      refine lv_iload hx hb d_S_tryTurn_31 (lv_at hl 6 rfl) ?_
      refine lv_aload_n hx hb d_S_tryTurn_33 rfl (lv_at hl 0 rfl) ?_
      refine gf_S_86 (v := .int S_count) hx hb hts hown hK hP hN_S rfl d_S_tryTurn_34 ?_
      refine lv_icmp_ge (tgt := 84) hx hb d_S_tryTurn_37 (by decide) (fun hc => ?_) (fun hc => ?_)
      · have hf := z_t hc hf
        obtain rfl := Option.some.inj hf
        exact kt0 ls (lv_sub hl [0, 1, 2, 3, 4, 5, 6] rfl)
      · have hf := z_f hc hf
        refine lv_aload_n hx hb d_S_tryTurn_40 rfl (lv_at hl 0 rfl) ?_
        refine gf_S_28 (v := .ref aW) hx hb hts hown hK hP hN_S rfl d_S_tryTurn_41 ?_
        refine lv_iload hx hb d_S_tryTurn_44 (lv_at hl 6 rfl) ?_
        obtain ⟨hin, hf⟩ := z_no hf
        refine va_iald hx hb hK hP _ 0 hN_W rfl hin d_S_tryTurn_46 ?_
        refine lv_aload_n hx hb d_S_tryTurn_47 rfl (lv_at hl 0 rfl) ?_
        refine gf_S_31 (v := .ref aD) hx hb hts hown hK hP hN_S rfl d_S_tryTurn_48 ?_
        refine lv_iload hx hb d_S_tryTurn_51 (lv_at hl 6 rfl) ?_
        obtain ⟨hin, hf⟩ := z_no hf
        refine va_iald hx hb hK hP _ 0 hN_D rfl hin d_S_tryTurn_53 ?_
        refine lv_iload_n hx hb d_S_tryTurn_54 rfl (lv_at hl 3 rfl) ?_
        obtain ⟨q327, hc, hf⟩ := z_b hf
        refine vp_callSi (z_cr (va_runSN (As := [.int (q317 v6_325.toNatClampNeg), .int q318]) (rest := [.int (W_f v6_325.toNatClampNeg)]) ⟨hx, hb, hml, hown, hts⟩ (c_F_dimmed l (q317 v6_325.toNatClampNeg) q318 q327 hc) (cw_S_139 hts hZ ⟨Nat.le_of_ble_eq_true rfl, Nat.le_of_ble_eq_true rfl⟩) ⟨zb0, zp0⟩ rfl rfl hl.1 rfl (lv_room (Nat.le_of_ble_eq_true rfl)) d_S_tryTurn_55 ⟨Nat.zero_le _, Nat.zero_le _⟩)) (fun r328 hv => ?_)
        have hv := hv.symm
        subst hv
        refine lv_isub hx hb d_S_tryTurn_58 ?_
        refine lv_istore (lv' := [(7, .int ((W_f v6_325.toNatClampNeg) - q327)), (0, .ref aS), (1, .int x1), (2, .int x2), (3, .int q318), (4, .int v4_323), (5, .int v5_324), (6, .int v6_325)]) hx hb d_S_tryTurn_59 hl (by decide) rfl (fun ls hl => ?_)
        refine lv_iload hx hb d_S_tryTurn_61 (lv_at hl 5 rfl) ?_
        refine lv_iload hx hb d_S_tryTurn_63 (lv_at hl 0 rfl) ?_
        refine lv_iadd hx hb d_S_tryTurn_65 ?_
        refine lv_istore (lv' := [(4, .int (v4_323 + ((W_f v6_325.toNatClampNeg) - q327))), (7, .int ((W_f v6_325.toNatClampNeg) - q327)), (0, .ref aS), (1, .int x1), (2, .int x2), (3, .int q318), (5, .int v5_324), (6, .int v6_325)]) hx hb d_S_tryTurn_66 hl (by decide) rfl (fun ls hl => ?_)
        refine lv_iload hx hb d_S_tryTurn_68 (lv_at hl 6 rfl) ?_
        refine lv_iload hx hb d_S_tryTurn_70 (lv_at hl 1 rfl) ?_
        refine lv_iload hx hb d_S_tryTurn_72 (lv_at hl 1 rfl) ?_
        refine lv_imul hx hb d_S_tryTurn_74 ?_
        refine lv_iadd hx hb d_S_tryTurn_75 ?_
        refine lv_istore (lv' := [(5, .int (v5_324 + (((W_f v6_325.toNatClampNeg) - q327) * ((W_f v6_325.toNatClampNeg) - q327)))), (4, .int (v4_323 + ((W_f v6_325.toNatClampNeg) - q327))), (7, .int ((W_f v6_325.toNatClampNeg) - q327)), (0, .ref aS), (1, .int x1), (2, .int x2), (3, .int q318), (6, .int v6_325)]) hx hb d_S_tryTurn_76 hl (by decide) rfl (fun ls hl => ?_)
        refine lv_iinc (v := (v6_325 + 1)) (lv' := [(6, .int (v6_325 + 1)), (5, .int (v5_324 + (((W_f v6_325.toNatClampNeg) - q327) * ((W_f v6_325.toNatClampNeg) - q327)))), (4, .int (v4_323 + ((W_f v6_325.toNatClampNeg) - q327))), (7, .int ((W_f v6_325.toNatClampNeg) - q327)), (0, .ref aS), (1, .int x1), (2, .int x2), (3, .int q318)]) hx hb d_S_tryTurn_78 hl (k := 7) rfl rfl (by decide) rfl (fun ls hl => ?_)
        refine lv_goto (tgt := 31) hx hb d_S_tryTurn_81 (by decide) ?_
        exact ih (v4_323 + ((W_f v6_325.toNatClampNeg) - q327)) (v5_324 + (((W_f v6_325.toNatClampNeg) - q327) * ((W_f v6_325.toNatClampNeg) - q327))) (v6_325 + 1) ls _ hf (lv_sub hl [4, 5, 6, 7, 2, 1, 0] rfl) kt0
  obtain ⟨q322, hc, hf⟩ := z_b hf
  refine lp326 _ FU (0 : Int32) (0 : Int32) (0 : Int32) ls q322 hc (lv_sub hl [4, 5, 6, 3, 2, 1, 0] rfl) (fun ls hl => ?_)
  refine lv_iload hx hb d_S_tryTurn_84 (lv_at hl 4 rfl) ?_
  refine lv_i2l hx hb d_S_tryTurn_86 rfl ?_
  refine lv_aload_n hx hb d_S_tryTurn_87 rfl (lv_at hl 0 rfl) ?_
  refine gf_S_86 (v := .int S_count) hx hb hts hown hK hP hN_S rfl d_S_tryTurn_88 ?_
  refine lv_i2l hx hb d_S_tryTurn_91 rfl ?_
  obtain ⟨q329, hc, hf⟩ := z_b hf
  refine vp_callSl (z_cr (va_runSN (As := [.long q322.1.toInt64, .long S_count.toInt64]) (rest := []) ⟨hx, hb, hml, hown, hts⟩ (c_F_nearest l q322.1.toInt64 S_count.toInt64 q329 hc) (cw_S_142 hts hZ ⟨Nat.le_of_ble_eq_true rfl, Nat.le_of_ble_eq_true rfl⟩) ⟨zb0, zp0⟩ rfl rfl hl.1 rfl (lv_room (Nat.le_of_ble_eq_true rfl)) d_S_tryTurn_92 ⟨Nat.zero_le _, Nat.zero_le _⟩)) (fun r330 hv => ?_)
  have hv := hv.symm
  subst hv
  refine lv_l2i hx hb d_S_tryTurn_95 rfl ?_
  refine lv_istore (lv' := [(6, .int q329.toInt32), (0, .ref aS), (1, .int x1), (2, .int x2), (3, .int q318), (4, .int q322.1), (5, .int q322.2.1)]) hx hb d_S_tryTurn_96 hl (by decide) rfl (fun ls hl => ?_)
  refine lv_iload hx hb d_S_tryTurn_98 (lv_at hl 6 rfl) ?_
  refine lv_iconst (v := 2) hx hb d_S_tryTurn_100 (by decide) ?_
  refine lv_iload hx hb d_S_tryTurn_101 (lv_at hl 0 rfl) ?_
  refine lv_imul hx hb d_S_tryTurn_103 ?_
  refine lv_iload hx hb d_S_tryTurn_104 (lv_at hl 5 rfl) ?_
  refine lv_imul hx hb d_S_tryTurn_106 ?_
  refine lv_isub hx hb d_S_tryTurn_107 ?_
  refine lv_aload_n hx hb d_S_tryTurn_108 rfl (lv_at hl 1 rfl) ?_
  refine gf_S_86 (v := .int S_count) hx hb hts hown hK hP hN_S rfl d_S_tryTurn_109 ?_
  refine lv_iload hx hb d_S_tryTurn_112 (lv_at hl 0 rfl) ?_
  refine lv_imul hx hb d_S_tryTurn_114 ?_
  refine lv_iload hx hb d_S_tryTurn_115 (lv_at hl 0 rfl) ?_
  refine lv_imul hx hb d_S_tryTurn_117 ?_
  refine lv_iadd hx hb d_S_tryTurn_118 ?_
  refine lv_istore (lv' := [(7, .int ((q322.2.1 - (((2 : Int32) * q329.toInt32) * q322.1)) + ((S_count * q329.toInt32) * q329.toInt32))), (6, .int q329.toInt32), (0, .ref aS), (1, .int x1), (2, .int x2), (3, .int q318), (4, .int q322.1), (5, .int q322.2.1)]) hx hb d_S_tryTurn_119 hl (by decide) rfl (fun ls hl => ?_)
  refine lv_aload_n hx hb d_S_tryTurn_121 rfl (lv_at hl 2 rfl) ?_
  refine gf_S_43 (v := .ref aE) hx hb hts hown hK hP hN_S rfl d_S_tryTurn_122 ?_
  refine gf_S_146 (v := .int E_error) hx hb hts hown hK hZ hP hN_E rfl d_S_tryTurn_125 ?_
  refine lv_iconst (v := (-1)) hx hb d_S_tryTurn_128 (by decide) ?_
  refine lv_icmp_eq (tgt := 144) hx hb d_S_tryTurn_129 (by decide) (fun hc => ?_) (fun hc => ?_)
  · have hf := z_t hc hf
    refine lv_aload_n hx hb d_S_tryTurn_144 rfl (lv_at hl 2 rfl) ?_
    refine gf_S_43 (v := .ref aE) hx hb hts hown hK hP hN_S rfl d_S_tryTurn_145 ?_
    refine lv_iload_n hx hb d_S_tryTurn_148 rfl (lv_at hl 3 rfl) ?_
    refine lv_iload_n hx hb d_S_tryTurn_149 rfl (lv_at hl 4 rfl) ?_
    refine lv_iload_n hx hb d_S_tryTurn_150 rfl (lv_at hl 5 rfl) ?_
    refine lv_iload hx hb d_S_tryTurn_151 (lv_at hl 1 rfl) ?_
    refine lv_iload hx hb d_S_tryTurn_153 (lv_at hl 0 rfl) ?_
    obtain ⟨q331, hc, hf⟩ := z_b hf
    have hFc := z_free hD hS hA
    refine va_callv (va_runV (As := [.int x1, .int x2, .int q318, .int q329.toInt32, .int ((q322.2.1 - (((2 : Int32) * q329.toInt32) * q322.1)) + ((S_count * q329.toInt32) * q329.toInt32))]) (rest := []) ⟨hx, hb, hml, hown, hts⟩ (c_T_become l dC dI cI cL _ x1 x2 q318 q329.toInt32 ((q322.2.1 - (((2 : Int32) * q329.toInt32) * q322.1)) + ((S_count * q329.toInt32) * q329.toInt32)) hN_E q331 hc) (cw_S_59 hts ⟨Nat.le_of_ble_eq_true rfl, Nat.le_of_ble_eq_true rfl⟩) ⟨zbM, va_recv hK hP (ci := 4) rfl hN_E, (zpM hP hK hZ hD)⟩ rfl rfl hl.1 rfl (lv_room (Nat.le_of_ble_eq_true rfl)) d_S_tryTurn_155 ⟨Nat.zero_le _, Nat.zero_le _⟩) hS (fun q _ h => hFc q h) hFc (fun ws t H locs ht hvm hu hB hz1 hk1 hS => ?_)
    obtain ⟨hN_E, hfr⟩ := hu
    obtain ⟨hP, -, hD1⟩ := hB
    rw [ht] at hP
    have hD := hD1.weaken (fun _ _ _ h => hFc _ h)
    have hN_E : ws[13]? = some (aE, .inr (4, [.int q331.1, .int q331.2.1, .int q331.2.2.1, .int q331.2.2.2.1, .int q331.2.2.2.2])) := hN_E
    have hN_S := (hfr _ (by decide)).trans hN_S
    have hN_H := (hfr _ (by decide)).trans hN_H
    have hN_HA := (hfr _ (by decide)).trans hN_HA
    have hN_V := (hfr _ (by decide)).trans hN_V
    have hN_W := (hfr _ (by decide)).trans hN_W
    have hN_D := (hfr _ (by decide)).trans hN_D
    have hw := z_frC (by decide) hw hfr
    obtain rfl := Option.some.inj hf
    exact W.vret hx hb hr (fun t ht hW => ⟨⟨ws, rfl, (by dsimp only; exact ⟨hN_V, hN_D, hN_E, hw⟩), by rw [ht]; exact hP, va_K.moved hW.alike hK, hD⟩, hS.F ht⟩) hS.2.2 d_S_tryTurn_158
  · have hf := z_f hc hf
    refine lv_iload hx hb d_S_tryTurn_132 (lv_at hl 0 rfl) ?_
    refine lv_aload_n hx hb d_S_tryTurn_134 rfl (lv_at hl 2 rfl) ?_
    refine gf_S_43 (v := .ref aE) hx hb hts hown hK hP hN_S rfl d_S_tryTurn_135 ?_
    refine gf_S_146 (v := .int E_error) hx hb hts hown hK hZ hP hN_E rfl d_S_tryTurn_138 ?_
    refine lv_icmp_ge (tgt := 158) hx hb d_S_tryTurn_141 (by decide) (fun hc => ?_) (fun hc => ?_)
    · have hf := z_t hc hf
      obtain rfl := Option.some.inj hf
      exact W.vret hx hb hr (fun t ht hW => ⟨⟨ws, rfl, (by dsimp only; exact ⟨hN_V, hN_D, hN_E, hw⟩), by rw [ht]; exact hP, va_K.moved hW.alike hK, hD⟩, hS.F ht⟩) hS.2.2 d_S_tryTurn_158
    · have hf := z_f hc hf
      refine lv_aload_n hx hb d_S_tryTurn_144 rfl (lv_at hl 2 rfl) ?_
      refine gf_S_43 (v := .ref aE) hx hb hts hown hK hP hN_S rfl d_S_tryTurn_145 ?_
      refine lv_iload_n hx hb d_S_tryTurn_148 rfl (lv_at hl 3 rfl) ?_
      refine lv_iload_n hx hb d_S_tryTurn_149 rfl (lv_at hl 4 rfl) ?_
      refine lv_iload_n hx hb d_S_tryTurn_150 rfl (lv_at hl 5 rfl) ?_
      refine lv_iload hx hb d_S_tryTurn_151 (lv_at hl 1 rfl) ?_
      refine lv_iload hx hb d_S_tryTurn_153 (lv_at hl 0 rfl) ?_
      obtain ⟨q332, hc, hf⟩ := z_b hf
      have hFc := z_free hD hS hA
      refine va_callv (va_runV (As := [.int x1, .int x2, .int q318, .int q329.toInt32, .int ((q322.2.1 - (((2 : Int32) * q329.toInt32) * q322.1)) + ((S_count * q329.toInt32) * q329.toInt32))]) (rest := []) ⟨hx, hb, hml, hown, hts⟩ (c_T_become l dC dI cI cL _ x1 x2 q318 q329.toInt32 ((q322.2.1 - (((2 : Int32) * q329.toInt32) * q322.1)) + ((S_count * q329.toInt32) * q329.toInt32)) hN_E q332 hc) (cw_S_59 hts ⟨Nat.le_of_ble_eq_true rfl, Nat.le_of_ble_eq_true rfl⟩) ⟨zbM, va_recv hK hP (ci := 4) rfl hN_E, (zpM hP hK hZ hD)⟩ rfl rfl hl.1 rfl (lv_room (Nat.le_of_ble_eq_true rfl)) d_S_tryTurn_155 ⟨Nat.zero_le _, Nat.zero_le _⟩) hS (fun q _ h => hFc q h) hFc (fun ws t H locs ht hvm hu hB hz1 hk1 hS => ?_)
      obtain ⟨hN_E, hfr⟩ := hu
      obtain ⟨hP, -, hD1⟩ := hB
      rw [ht] at hP
      have hD := hD1.weaken (fun _ _ _ h => hFc _ h)
      have hN_E : ws[13]? = some (aE, .inr (4, [.int q332.1, .int q332.2.1, .int q332.2.2.1, .int q332.2.2.2.1, .int q332.2.2.2.2])) := hN_E
      have hN_S := (hfr _ (by decide)).trans hN_S
      have hN_H := (hfr _ (by decide)).trans hN_H
      have hN_HA := (hfr _ (by decide)).trans hN_HA
      have hN_V := (hfr _ (by decide)).trans hN_V
      have hN_W := (hfr _ (by decide)).trans hN_W
      have hN_D := (hfr _ (by decide)).trans hN_D
      have hw := z_frC (by decide) hw hfr
      obtain rfl := Option.some.inj hf
      exact W.vret hx hb hr (fun t ht hW => ⟨⟨ws, rfl, (by dsimp only; exact ⟨hN_V, hN_D, hN_E, hw⟩), by rw [ht]; exact hP, va_K.moved hW.alike hK, hD⟩, hS.F ht⟩) hS.2.2 d_S_tryTurn_158
